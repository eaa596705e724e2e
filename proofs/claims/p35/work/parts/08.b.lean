section
variable {p : Program} {l : Launch} {e : Env} {R : Room} {s : State} {m : MethodId} {args : Array Value} {below : List Frame} {meth : Method} {c : Code} {D : va_G} {cy : Nat → ClassId} {n0 : Nat} {ad : Nat → Nat → Nat} {nT nO : Nat}

def rmX3_needTool : Room := { frames := 6, cells := 1, slots := 6, locals := 90 }
def f_X3_needTool_0 (σ : Sg) (x1 : Int32) : Option ((Nat ⊕ Nat) × Sg) :=
  (if (x1 : Int32) < (0 : Int32) then (some (.inl 1, σ)) else (if (8 : Int32) ≤ (x1 : Int32) then (some (.inl 1, σ)) else (if (x1 : Int32) < 0 ∨ 8 ≤ (x1 : Int32).toNatClampNeg then none else if σ.1 10 0 (x1 : Int32).toNatClampNeg = 0 then (some (.inl 1, σ)) else (if (x1 : Int32) < 0 ∨ 8 ≤ (x1 : Int32).toNatClampNeg then none else if σ.1 10 0 (x1 : Int32).toNatClampNeg = 0 then none else (some (.inr ((x1 : Int32).toNatClampNeg), σ))))))
set_option maxRecDepth 100000 in
set_option maxHeartbeats 4000000 in
theorem b_X3_needTool_0 (C0 : Cx p l s m args meth c cX3_needTool 2 RX3 D cy n0) (hR : meth.sig.returnType = (some (.object "Teethrow$Tool"))) (hout : ∀ x ∈ c.exceptionTable.toList, False) (σ : Sg) (x1 : Int32) (H : Heap) (locs : List Loc) (ls : Array Slot) (hh : Hp D cy n0 ad nT nO s σ H locs) (hl : lv_has ls 2 [(0, .ref (ad 0 0)), (1, .int x1)]) : Sm (Qz below args s D cy n0 ad nT nO (vT ad) 1 6) (f_X3_needTool_0 σ x1) p l e rmX3_needTool s m args below meth c H locs 0 0 (F0 m 0 ls []) := by
  unfold f_X3_needTool_0
  refine s_iload_n C0 dX3_needTool_0 rfl (lv_at hl 1 rfl) ?_
  refine s_if_lt (tgt := 19) C0 dX3_needTool_1 (by decide) (fun _ => ?_) (fun _ => ?_)
  · exact s_thrw (text := "no such tool") C0 hh ax156 w154 w155 (by decide) hl.1 dX3_needTool_19 dX3_needTool_22 dX3_needTool_23 dX3_needTool_26 dX3_needTool_29 hout (Nat.le_of_ble_eq_true rfl) (Nat.le_of_ble_eq_true rfl) (Nat.le_of_ble_eq_true rfl) (Nat.le_of_ble_eq_true rfl) (Nat.le_of_ble_eq_true rfl) (Nat.le_of_ble_eq_true rfl)
  · refine s_iload_n C0 dX3_needTool_4 rfl (lv_at hl 1 rfl) ?_
    refine s_bipush (v := 8) C0 dX3_needTool_5 (by decide) ?_
    refine s_icmp_ge (tgt := 19) C0 dX3_needTool_7 (by decide) (fun _ => ?_) (fun _ => ?_)
    · exact s_thrw (text := "no such tool") C0 hh ax156 w154 w155 (by decide) hl.1 dX3_needTool_19 dX3_needTool_22 dX3_needTool_23 dX3_needTool_26 dX3_needTool_29 hout (Nat.le_of_ble_eq_true rfl) (Nat.le_of_ble_eq_true rfl) (Nat.le_of_ble_eq_true rfl) (Nat.le_of_ble_eq_true rfl) (Nat.le_of_ble_eq_true rfl) (Nat.le_of_ble_eq_true rfl)
    · refine s_aload_n C0 dX3_needTool_10 rfl (lv_at hl 0 rfl) ?_
      refine s_get (v := .ref (ad 10 0)) C0 hh (rl_b (by decide)) rfl (T := TX3) (N := 6) rfl hinX3 (by decide) w26 rfl dX3_needTool_11 ?_
      refine s_iload_n C0 dX3_needTool_14 rfl (lv_at hl 1 rfl) ?_
      refine s_aaldNNT (tgt := 30) C0 hh dX3_needTool_15 dX3_needTool_16 (by decide) (fun _ => ?_) (fun _ _ => ?_)
      · exact s_thrw (text := "no such tool") C0 hh ax156 w154 w155 (by decide) hl.1 dX3_needTool_19 dX3_needTool_22 dX3_needTool_23 dX3_needTool_26 dX3_needTool_29 hout (Nat.le_of_ble_eq_true rfl) (Nat.le_of_ble_eq_true rfl) (Nat.le_of_ble_eq_true rfl) (Nat.le_of_ble_eq_true rfl) (Nat.le_of_ble_eq_true rfl) (Nat.le_of_ble_eq_true rfl)
      · refine s_aload_n C0 dX3_needTool_30 rfl (lv_at hl 0 rfl) ?_
        refine s_get (v := .ref (ad 10 0)) C0 hh (rl_b (by decide)) rfl (T := TX3) (N := 6) rfl hinX3 (by decide) w26 rfl dX3_needTool_31 ?_
        refine s_iload_n C0 dX3_needTool_34 rfl (lv_at hl 1 rfl) ?_
        refine s_aaldT C0 hh dX3_needTool_35 (fun hj2 => ?_)
        exact s_aretx (kd := 1) C0 hh hR (Or.inl ⟨_, rfl⟩) (Nat.le_of_ble_eq_true rfl) (Nat.le_of_ble_eq_true rfl) dX3_needTool_36
def f_X3_needTool (σ : Sg) (x1 : Int32) : Option ((Nat ⊕ Nat) × Sg) := f_X3_needTool_0 σ x1
set_option maxRecDepth 100000 in
set_option maxHeartbeats 4000000 in
theorem c_X3_needTool (hst : l.stackTraces = false) (σ : Sg) (x1 : Int32) : CtX l yX3_needTool (wm yX3_needTool cX3_needTool 2 (some (.object "Teethrow$Tool"))) rmX3_needTool 1 6 (vT ad) [.ref (ad 0 0), .int x1] D cy n0 ad nT nO  σ (f_X3_needTool σ x1) := by
  intro r0 h0
  refine vx_ofW (cc := cX3_needTool) (maxL := 2) (ret := (some (.object "Teethrow$Tool"))) (by decide +kernel) rfl ?_
  intro p e s m args below meth c s₁ B hml hout hv
  obtain ⟨C0, hh, hR, rfl⟩ := ent B hml hst hv
  rw [lg_entry_eq]
  have hl := lv_entry ([.ref (ad 0 0), .int x1]) (n := 2) (Nat.le_of_ble_eq_true rfl)
  generalize (lg_sl ([.ref (ad 0 0), .int x1]) ++ List.replicate (2 - (lg_sl ([.ref (ad 0 0), .int x1])).length) Slot.unset).toArray = ls at hl ⊢
  exact b_X3_needTool_0 C0 hR hout σ x1 _ _ _ hh hl r0 h0
theorem nT_lt {nT nO : Nat} {σ : Sg} {x1 : Int32} {r : Nat × Sg} (h : f_X3_needTool σ x1 = some (.inr r.1, r.2)) (hI : Iv nT nO r.2) : r.1 < nT := by
  unfold f_X3_needTool f_X3_needTool_0 at h
  repeat' split at h
  all_goals first | (cases h; done) | skip
  all_goals
    have h1 := Option.some.inj h
    have h2 : r.1 = x1.toNatClampNeg := (Sum.inr.inj (congrArg Prod.fst h1)).symm
    have h3 : r.2 = σ := (congrArg Prod.snd h1).symm
    rw [h2]
    rw [h3] at hI
    exact hI.1.1 _ (by assumption)

def rmX3_needOrder : Room := { frames := 6, cells := 1, slots := 6, locals := 90 }
def f_X3_needOrder_0 (σ : Sg) (x1 : Int32) : Option ((Nat ⊕ Nat) × Sg) :=
  (if (x1 : Int32) < (0 : Int32) then (some (.inl 1, σ)) else (if (6 : Int32) ≤ (x1 : Int32) then (some (.inl 1, σ)) else (if (x1 : Int32) < 0 ∨ 6 ≤ (x1 : Int32).toNatClampNeg then none else if σ.1 11 0 (x1 : Int32).toNatClampNeg = 0 then (some (.inl 1, σ)) else (if (x1 : Int32) < 0 ∨ 6 ≤ (x1 : Int32).toNatClampNeg then none else if σ.1 11 0 (x1 : Int32).toNatClampNeg = 0 then none else (some (.inr ((x1 : Int32).toNatClampNeg), σ))))))
set_option maxRecDepth 100000 in
set_option maxHeartbeats 4000000 in
theorem b_X3_needOrder_0 (C0 : Cx p l s m args meth c cX3_needOrder 2 RX3 D cy n0) (hR : meth.sig.returnType = (some (.object "Teethrow$Order"))) (hout : ∀ x ∈ c.exceptionTable.toList, False) (σ : Sg) (x1 : Int32) (H : Heap) (locs : List Loc) (ls : Array Slot) (hh : Hp D cy n0 ad nT nO s σ H locs) (hl : lv_has ls 2 [(0, .ref (ad 0 0)), (1, .int x1)]) : Sm (Qz below args s D cy n0 ad nT nO (vO ad) 1 6) (f_X3_needOrder_0 σ x1) p l e rmX3_needOrder s m args below meth c H locs 0 0 (F0 m 0 ls []) := by
  unfold f_X3_needOrder_0
  refine s_iload_n C0 dX3_needOrder_0 rfl (lv_at hl 1 rfl) ?_
  refine s_if_lt (tgt := 19) C0 dX3_needOrder_1 (by decide) (fun _ => ?_) (fun _ => ?_)
  · exact s_thrw (text := "no such order") C0 hh ax156 w154 w155 (by decide) hl.1 dX3_needOrder_19 dX3_needOrder_22 dX3_needOrder_23 dX3_needOrder_26 dX3_needOrder_29 hout (Nat.le_of_ble_eq_true rfl) (Nat.le_of_ble_eq_true rfl) (Nat.le_of_ble_eq_true rfl) (Nat.le_of_ble_eq_true rfl) (Nat.le_of_ble_eq_true rfl) (Nat.le_of_ble_eq_true rfl)
  · refine s_iload_n C0 dX3_needOrder_4 rfl (lv_at hl 1 rfl) ?_
    refine s_bipush (v := 6) C0 dX3_needOrder_5 (by decide) ?_
    refine s_icmp_ge (tgt := 19) C0 dX3_needOrder_7 (by decide) (fun _ => ?_) (fun _ => ?_)
    · exact s_thrw (text := "no such order") C0 hh ax156 w154 w155 (by decide) hl.1 dX3_needOrder_19 dX3_needOrder_22 dX3_needOrder_23 dX3_needOrder_26 dX3_needOrder_29 hout (Nat.le_of_ble_eq_true rfl) (Nat.le_of_ble_eq_true rfl) (Nat.le_of_ble_eq_true rfl) (Nat.le_of_ble_eq_true rfl) (Nat.le_of_ble_eq_true rfl) (Nat.le_of_ble_eq_true rfl)
    · refine s_aload_n C0 dX3_needOrder_10 rfl (lv_at hl 0 rfl) ?_
      refine s_get (v := .ref (ad 11 0)) C0 hh (rl_b (by decide)) rfl (T := TX3) (N := 6) rfl hinX3 (by decide) w28 rfl dX3_needOrder_11 ?_
      refine s_iload_n C0 dX3_needOrder_14 rfl (lv_at hl 1 rfl) ?_
      refine s_aaldNNO (tgt := 30) C0 hh dX3_needOrder_15 dX3_needOrder_16 (by decide) (fun _ => ?_) (fun _ _ => ?_)
      · exact s_thrw (text := "no such order") C0 hh ax156 w154 w155 (by decide) hl.1 dX3_needOrder_19 dX3_needOrder_22 dX3_needOrder_23 dX3_needOrder_26 dX3_needOrder_29 hout (Nat.le_of_ble_eq_true rfl) (Nat.le_of_ble_eq_true rfl) (Nat.le_of_ble_eq_true rfl) (Nat.le_of_ble_eq_true rfl) (Nat.le_of_ble_eq_true rfl) (Nat.le_of_ble_eq_true rfl)
      · refine s_aload_n C0 dX3_needOrder_30 rfl (lv_at hl 0 rfl) ?_
        refine s_get (v := .ref (ad 11 0)) C0 hh (rl_b (by decide)) rfl (T := TX3) (N := 6) rfl hinX3 (by decide) w28 rfl dX3_needOrder_31 ?_
        refine s_iload_n C0 dX3_needOrder_34 rfl (lv_at hl 1 rfl) ?_
        refine s_aaldO C0 hh dX3_needOrder_35 (fun hj2 => ?_)
        exact s_aretx (kd := 6) C0 hh hR (Or.inl ⟨_, rfl⟩) (Nat.le_of_ble_eq_true rfl) (Nat.le_of_ble_eq_true rfl) dX3_needOrder_36
def f_X3_needOrder (σ : Sg) (x1 : Int32) : Option ((Nat ⊕ Nat) × Sg) := f_X3_needOrder_0 σ x1
set_option maxRecDepth 100000 in
set_option maxHeartbeats 4000000 in
theorem c_X3_needOrder (hst : l.stackTraces = false) (σ : Sg) (x1 : Int32) : CtX l yX3_needOrder (wm yX3_needOrder cX3_needOrder 2 (some (.object "Teethrow$Order"))) rmX3_needOrder 1 6 (vO ad) [.ref (ad 0 0), .int x1] D cy n0 ad nT nO  σ (f_X3_needOrder σ x1) := by
  intro r0 h0
  refine vx_ofW (cc := cX3_needOrder) (maxL := 2) (ret := (some (.object "Teethrow$Order"))) (by decide +kernel) rfl ?_
  intro p e s m args below meth c s₁ B hml hout hv
  obtain ⟨C0, hh, hR, rfl⟩ := ent B hml hst hv
  rw [lg_entry_eq]
  have hl := lv_entry ([.ref (ad 0 0), .int x1]) (n := 2) (Nat.le_of_ble_eq_true rfl)
  generalize (lg_sl ([.ref (ad 0 0), .int x1]) ++ List.replicate (2 - (lg_sl ([.ref (ad 0 0), .int x1])).length) Slot.unset).toArray = ls at hl ⊢
  exact b_X3_needOrder_0 C0 hR hout σ x1 _ _ _ hh hl r0 h0
theorem nO_lt {nT nO : Nat} {σ : Sg} {x1 : Int32} {r : Nat × Sg} (h : f_X3_needOrder σ x1 = some (.inr r.1, r.2)) (hI : Iv nT nO r.2) : r.1 < nO := by
  unfold f_X3_needOrder f_X3_needOrder_0 at h
  repeat' split at h
  all_goals first | (cases h; done) | skip
  all_goals
    have h1 := Option.some.inj h
    have h2 : r.1 = x1.toNatClampNeg := (Sum.inr.inj (congrArg Prod.fst h1)).symm
    have h3 : r.2 = σ := (congrArg Prod.snd h1).symm
    rw [h2]
    rw [h3] at hI
    exact hI.1.2 _ (by assumption)

def rmX3_needTooth : Room := { frames := 6, cells := 1, slots := 6, locals := 90 }
def f_X3_needTooth_0 (σ : Sg) (i0 : Nat) (x1 : Int32) : Option ((Nat ⊕ Unit) × Sg) :=
  (if (x1 : Int32) < (0 : Int32) then (some (.inl 5, σ)) else (if (x1 : Int32) < (σ.1 2 i0 3) then (some (.inr (), σ)) else (some (.inl 5, σ))))
set_option maxRecDepth 100000 in
set_option maxHeartbeats 4000000 in
theorem b_X3_needTooth_0 (C0 : Cx p l s m args meth c cX3_needTooth 2 RX3 D cy n0) (hR : meth.sig.returnType = none) (hout : ∀ x ∈ c.exceptionTable.toList, False) (σ : Sg) (i0 : Nat) (x1 : Int32) (hi0 : i0 < nT ∨ i0 = 8) (H : Heap) (locs : List Loc) (ls : Array Slot) (hh : Hp D cy n0 ad nT nO s σ H locs) (hl : lv_has ls 2 [(0, .ref (ad 2 i0)), (1, .int x1)]) : Sm (Qz below args s D cy n0 ad nT nO vV 1 6) (f_X3_needTooth_0 σ i0 x1) p l e rmX3_needTooth s m args below meth c H locs 0 0 (F0 m 0 ls []) := by
  unfold f_X3_needTooth_0
  refine s_iload_n C0 dX3_needTooth_0 rfl (lv_at hl 1 rfl) ?_
  refine s_if_lt (tgt := 12) C0 dX3_needTooth_1 (by decide) (fun _ => ?_) (fun _ => ?_)
  · exact s_thn (text := "no such tooth") C0 hh ax159 w157 w158 (by decide) hl.1 dX3_needTooth_12 dX3_needTooth_15 dX3_needTooth_16 dX3_needTooth_19 dX3_needTooth_22 hout (Nat.le_of_ble_eq_true rfl) (Nat.le_of_ble_eq_true rfl) (Nat.le_of_ble_eq_true rfl) (Nat.le_of_ble_eq_true rfl) (Nat.le_of_ble_eq_true rfl) (Nat.le_of_ble_eq_true rfl)
  · refine s_iload_n C0 dX3_needTooth_4 rfl (lv_at hl 1 rfl) ?_
    refine s_aload_n C0 dX3_needTooth_5 rfl (lv_at hl 0 rfl) ?_
    refine s_getN (v := .int (σ.1 2 i0 3)) C0 hh (rl_2 hi0) rfl (T := TX1) (N := 8) rfl hinX1 (by decide) w160 rfl dX3_needTooth_6 ?_
    refine s_icmp_lt (tgt := 23) C0 dX3_needTooth_9 (by decide) (fun _ => ?_) (fun _ => ?_)
    · exact s_vretx C0 hh hR (Nat.le_of_ble_eq_true rfl) (Nat.le_of_ble_eq_true rfl) dX3_needTooth_23
    · exact s_thn (text := "no such tooth") C0 hh ax159 w157 w158 (by decide) hl.1 dX3_needTooth_12 dX3_needTooth_15 dX3_needTooth_16 dX3_needTooth_19 dX3_needTooth_22 hout (Nat.le_of_ble_eq_true rfl) (Nat.le_of_ble_eq_true rfl) (Nat.le_of_ble_eq_true rfl) (Nat.le_of_ble_eq_true rfl) (Nat.le_of_ble_eq_true rfl) (Nat.le_of_ble_eq_true rfl)
def f_X3_needTooth (σ : Sg) (i0 : Nat) (x1 : Int32) : Option ((Nat ⊕ Unit) × Sg) := f_X3_needTooth_0 σ i0 x1
set_option maxRecDepth 100000 in
set_option maxHeartbeats 4000000 in
theorem c_X3_needTooth (hst : l.stackTraces = false) (σ : Sg) (i0 : Nat) (x1 : Int32) (hi0 : i0 < nT ∨ i0 = 8) : CtX l yX3_needTooth (wm yX3_needTooth cX3_needTooth 2 none) rmX3_needTooth 1 6 vV [.ref (ad 2 i0), .int x1] D cy n0 ad nT nO  σ (f_X3_needTooth σ i0 x1) := by
  intro r0 h0
  refine vx_ofW (cc := cX3_needTooth) (maxL := 2) (ret := none) (by decide +kernel) rfl ?_
  intro p e s m args below meth c s₁ B hml hout hv
  obtain ⟨C0, hh, hR, rfl⟩ := ent B hml hst hv
  rw [lg_entry_eq]
  have hl := lv_entry ([.ref (ad 2 i0), .int x1]) (n := 2) (Nat.le_of_ble_eq_true rfl)
  generalize (lg_sl ([.ref (ad 2 i0), .int x1]) ++ List.replicate (2 - (lg_sl ([.ref (ad 2 i0), .int x1])).length) Slot.unset).toArray = ls at hl ⊢
  exact b_X3_needTooth_0 C0 hR hout σ i0 x1 hi0 _ _ _ hh hl r0 h0

def rmX3_needHard : Room := { frames := 6, cells := 1, slots := 6, locals := 90 }
def f_X3_needHard_0 (σ : Sg) (i0 : Nat) : Option ((Nat ⊕ Unit) × Sg) :=
  (if ((σ.1 1 i0 4) : Int32) = (104 : Int32) then (some (.inr (), σ)) else (some (.inl 4, σ)))
set_option maxRecDepth 100000 in
set_option maxHeartbeats 4000000 in
theorem b_X3_needHard_0 (C0 : Cx p l s m args meth c cX3_needHard 1 RX3 D cy n0) (hR : meth.sig.returnType = none) (hout : ∀ x ∈ c.exceptionTable.toList, False) (σ : Sg) (i0 : Nat) (hi0 : i0 < nT) (H : Heap) (locs : List Loc) (ls : Array Slot) (hh : Hp D cy n0 ad nT nO s σ H locs) (hl : lv_has ls 1 [(0, .ref (ad 1 i0))]) : Sm (Qz below args s D cy n0 ad nT nO vV 1 6) (f_X3_needHard_0 σ i0) p l e rmX3_needHard s m args below meth c H locs 0 0 (F0 m 0 ls []) := by
  unfold f_X3_needHard_0
  refine s_aload_n C0 dX3_needHard_0 rfl (lv_at hl 0 rfl) ?_
  refine s_getN (v := .int (σ.1 1 i0 4)) C0 hh (rl_1 hi0) rfl (T := TX2) (N := 14) rfl hinX2 (by decide) w161 rfl dX3_needHard_1 ?_
  refine s_bipush (v := 104) C0 dX3_needHard_4 (by decide) ?_
  refine s_icmp_eq (tgt := 20) C0 dX3_needHard_6 (by decide) (fun _ => ?_) (fun _ => ?_)
  · exact s_vretx C0 hh hR (Nat.le_of_ble_eq_true rfl) (Nat.le_of_ble_eq_true rfl) dX3_needHard_20
  · exact s_thrw (text := "not hard") C0 hh ax164 w162 w163 (by decide) hl.1 dX3_needHard_9 dX3_needHard_12 dX3_needHard_13 dX3_needHard_16 dX3_needHard_19 hout (Nat.le_of_ble_eq_true rfl) (Nat.le_of_ble_eq_true rfl) (Nat.le_of_ble_eq_true rfl) (Nat.le_of_ble_eq_true rfl) (Nat.le_of_ble_eq_true rfl) (Nat.le_of_ble_eq_true rfl)
def f_X3_needHard (σ : Sg) (i0 : Nat) : Option ((Nat ⊕ Unit) × Sg) := f_X3_needHard_0 σ i0
set_option maxRecDepth 100000 in
set_option maxHeartbeats 4000000 in
theorem c_X3_needHard (hst : l.stackTraces = false) (σ : Sg) (i0 : Nat) (hi0 : i0 < nT) : CtX l yX3_needHard (wm yX3_needHard cX3_needHard 1 none) rmX3_needHard 1 6 vV [.ref (ad 1 i0)] D cy n0 ad nT nO  σ (f_X3_needHard σ i0) := by
  intro r0 h0
  refine vx_ofW (cc := cX3_needHard) (maxL := 1) (ret := none) (by decide +kernel) rfl ?_
  intro p e s m args below meth c s₁ B hml hout hv
  obtain ⟨C0, hh, hR, rfl⟩ := ent B hml hst hv
  rw [lg_entry_eq]
  have hl := lv_entry ([.ref (ad 1 i0)]) (n := 1) (Nat.le_of_ble_eq_true rfl)
  generalize (lg_sl ([.ref (ad 1 i0)]) ++ List.replicate (1 - (lg_sl ([.ref (ad 1 i0)])).length) Slot.unset).toArray = ls at hl ⊢
  exact b_X3_needHard_0 C0 hR hout σ i0 hi0 _ _ _ hh hl r0 h0

def rmX3_needShape : Room := { frames := 6, cells := 1, slots := 6, locals := 90 }
def f_X3_needShape_0 (σ : Sg) (x0 : Int32) : Option ((Nat ⊕ Unit) × Sg) :=
  (if (x0 : Int32) = (102 : Int32) then (some (.inr (), σ)) else (if (x0 : Int32) = (104 : Int32) then (some (.inr (), σ)) else (if (x0 : Int32) = (115 : Int32) then (some (.inr (), σ)) else (some (.inl 2, σ)))))
set_option maxRecDepth 100000 in
set_option maxHeartbeats 4000000 in
theorem b_X3_needShape_0 (C0 : Cx p l s m args meth c cX3_needShape 1 RX3 D cy n0) (hR : meth.sig.returnType = none) (hout : ∀ x ∈ c.exceptionTable.toList, False) (σ : Sg) (x0 : Int32) (H : Heap) (locs : List Loc) (ls : Array Slot) (hh : Hp D cy n0 ad nT nO s σ H locs) (hl : lv_has ls 1 [(0, .int x0)]) : Sm (Qz below args s D cy n0 ad nT nO vV 1 6) (f_X3_needShape_0 σ x0) p l e rmX3_needShape s m args below meth c H locs 0 0 (F0 m 0 ls []) := by
  unfold f_X3_needShape_0
  refine s_iload_n C0 dX3_needShape_0 rfl (lv_at hl 0 rfl) ?_
  refine s_bipush (v := 102) C0 dX3_needShape_1 (by decide) ?_
  refine s_icmp_eq (tgt := 29) C0 dX3_needShape_3 (by decide) (fun _ => ?_) (fun _ => ?_)
  · exact s_vretx C0 hh hR (Nat.le_of_ble_eq_true rfl) (Nat.le_of_ble_eq_true rfl) dX3_needShape_29
  · refine s_iload_n C0 dX3_needShape_6 rfl (lv_at hl 0 rfl) ?_
    refine s_bipush (v := 104) C0 dX3_needShape_7 (by decide) ?_
    refine s_icmp_eq (tgt := 29) C0 dX3_needShape_9 (by decide) (fun _ => ?_) (fun _ => ?_)
    · exact s_vretx C0 hh hR (Nat.le_of_ble_eq_true rfl) (Nat.le_of_ble_eq_true rfl) dX3_needShape_29
    · refine s_iload_n C0 dX3_needShape_12 rfl (lv_at hl 0 rfl) ?_
      refine s_bipush (v := 115) C0 dX3_needShape_13 (by decide) ?_
      refine s_icmp_eq (tgt := 29) C0 dX3_needShape_15 (by decide) (fun _ => ?_) (fun _ => ?_)
      · exact s_vretx C0 hh hR (Nat.le_of_ble_eq_true rfl) (Nat.le_of_ble_eq_true rfl) dX3_needShape_29
      · exact s_thrw (text := "no such shape") C0 hh ax167 w165 w166 (by decide) hl.1 dX3_needShape_18 dX3_needShape_21 dX3_needShape_22 dX3_needShape_25 dX3_needShape_28 hout (Nat.le_of_ble_eq_true rfl) (Nat.le_of_ble_eq_true rfl) (Nat.le_of_ble_eq_true rfl) (Nat.le_of_ble_eq_true rfl) (Nat.le_of_ble_eq_true rfl) (Nat.le_of_ble_eq_true rfl)
def f_X3_needShape (σ : Sg) (x0 : Int32) : Option ((Nat ⊕ Unit) × Sg) := f_X3_needShape_0 σ x0
set_option maxRecDepth 100000 in
set_option maxHeartbeats 4000000 in
theorem c_X3_needShape (hst : l.stackTraces = false) (σ : Sg) (x0 : Int32) : CtX l yX3_needShape (wm yX3_needShape cX3_needShape 1 none) rmX3_needShape 1 6 vV [.int x0] D cy n0 ad nT nO  σ (f_X3_needShape σ x0) := by
  intro r0 h0
  refine vx_ofW (cc := cX3_needShape) (maxL := 1) (ret := none) (by decide +kernel) rfl ?_
  intro p e s m args below meth c s₁ B hml hout hv
  obtain ⟨C0, hh, hR, rfl⟩ := ent B hml hst hv
  rw [lg_entry_eq]
  have hl := lv_entry ([.int x0]) (n := 1) (Nat.le_of_ble_eq_true rfl)
  generalize (lg_sl ([.int x0]) ++ List.replicate (1 - (lg_sl ([.int x0])).length) Slot.unset).toArray = ls at hl ⊢
  exact b_X3_needShape_0 C0 hR hout σ x0 _ _ _ hh hl r0 h0

def rmX3_needCut : Room := { frames := 6, cells := 1, slots := 6, locals := 90 }
def f_X3_needCut_0 (σ : Sg) (x0 : Int32) : Option ((Nat ⊕ Unit) × Sg) :=
  (if (x0 : Int32) = (98 : Int32) then (some (.inr (), σ)) else (if (x0 : Int32) = (115 : Int32) then (some (.inr (), σ)) else (if (x0 : Int32) = (109 : Int32) then (some (.inr (), σ)) else (some (.inl 2, σ)))))
set_option maxRecDepth 100000 in
set_option maxHeartbeats 4000000 in
theorem b_X3_needCut_0 (C0 : Cx p l s m args meth c cX3_needCut 1 RX3 D cy n0) (hR : meth.sig.returnType = none) (hout : ∀ x ∈ c.exceptionTable.toList, False) (σ : Sg) (x0 : Int32) (H : Heap) (locs : List Loc) (ls : Array Slot) (hh : Hp D cy n0 ad nT nO s σ H locs) (hl : lv_has ls 1 [(0, .int x0)]) : Sm (Qz below args s D cy n0 ad nT nO vV 1 6) (f_X3_needCut_0 σ x0) p l e rmX3_needCut s m args below meth c H locs 0 0 (F0 m 0 ls []) := by
  unfold f_X3_needCut_0
  refine s_iload_n C0 dX3_needCut_0 rfl (lv_at hl 0 rfl) ?_
  refine s_bipush (v := 98) C0 dX3_needCut_1 (by decide) ?_
  refine s_icmp_eq (tgt := 29) C0 dX3_needCut_3 (by decide) (fun _ => ?_) (fun _ => ?_)
  · exact s_vretx C0 hh hR (Nat.le_of_ble_eq_true rfl) (Nat.le_of_ble_eq_true rfl) dX3_needCut_29
  · refine s_iload_n C0 dX3_needCut_6 rfl (lv_at hl 0 rfl) ?_
    refine s_bipush (v := 115) C0 dX3_needCut_7 (by decide) ?_
    refine s_icmp_eq (tgt := 29) C0 dX3_needCut_9 (by decide) (fun _ => ?_) (fun _ => ?_)
    · exact s_vretx C0 hh hR (Nat.le_of_ble_eq_true rfl) (Nat.le_of_ble_eq_true rfl) dX3_needCut_29
    · refine s_iload_n C0 dX3_needCut_12 rfl (lv_at hl 0 rfl) ?_
      refine s_bipush (v := 109) C0 dX3_needCut_13 (by decide) ?_
      refine s_icmp_eq (tgt := 29) C0 dX3_needCut_15 (by decide) (fun _ => ?_) (fun _ => ?_)
      · exact s_vretx C0 hh hR (Nat.le_of_ble_eq_true rfl) (Nat.le_of_ble_eq_true rfl) dX3_needCut_29
      · exact s_thrw (text := "no such cut") C0 hh ax167 w165 w166 (by decide) hl.1 dX3_needCut_18 dX3_needCut_21 dX3_needCut_22 dX3_needCut_25 dX3_needCut_28 hout (Nat.le_of_ble_eq_true rfl) (Nat.le_of_ble_eq_true rfl) (Nat.le_of_ble_eq_true rfl) (Nat.le_of_ble_eq_true rfl) (Nat.le_of_ble_eq_true rfl) (Nat.le_of_ble_eq_true rfl)
def f_X3_needCut (σ : Sg) (x0 : Int32) : Option ((Nat ⊕ Unit) × Sg) := f_X3_needCut_0 σ x0
set_option maxRecDepth 100000 in
set_option maxHeartbeats 4000000 in
theorem c_X3_needCut (hst : l.stackTraces = false) (σ : Sg) (x0 : Int32) : CtX l yX3_needCut (wm yX3_needCut cX3_needCut 1 none) rmX3_needCut 1 6 vV [.int x0] D cy n0 ad nT nO  σ (f_X3_needCut σ x0) := by
  intro r0 h0
  refine vx_ofW (cc := cX3_needCut) (maxL := 1) (ret := none) (by decide +kernel) rfl ?_
  intro p e s m args below meth c s₁ B hml hout hv
  obtain ⟨C0, hh, hR, rfl⟩ := ent B hml hst hv
  rw [lg_entry_eq]
  have hl := lv_entry ([.int x0]) (n := 1) (Nat.le_of_ble_eq_true rfl)
  generalize (lg_sl ([.int x0]) ++ List.replicate (1 - (lg_sl ([.int x0])).length) Slot.unset).toArray = ls at hl ⊢
  exact b_X3_needCut_0 C0 hR hout σ x0 _ _ _ hh hl r0 h0

def rmX3_needBath : Room := { frames := 6, cells := 1, slots := 6, locals := 90 }
def f_X3_needBath_0 (σ : Sg) (x0 : Int32) : Option ((Nat ⊕ Unit) × Sg) :=
  (if (x0 : Int32) = (111 : Int32) then (some (.inr (), σ)) else (if (x0 : Int32) = (119 : Int32) then (some (.inr (), σ)) else (if (x0 : Int32) = (98 : Int32) then (some (.inr (), σ)) else (some (.inl 2, σ)))))
set_option maxRecDepth 100000 in
set_option maxHeartbeats 4000000 in
theorem b_X3_needBath_0 (C0 : Cx p l s m args meth c cX3_needBath 1 RX3 D cy n0) (hR : meth.sig.returnType = none) (hout : ∀ x ∈ c.exceptionTable.toList, False) (σ : Sg) (x0 : Int32) (H : Heap) (locs : List Loc) (ls : Array Slot) (hh : Hp D cy n0 ad nT nO s σ H locs) (hl : lv_has ls 1 [(0, .int x0)]) : Sm (Qz below args s D cy n0 ad nT nO vV 1 6) (f_X3_needBath_0 σ x0) p l e rmX3_needBath s m args below meth c H locs 0 0 (F0 m 0 ls []) := by
  unfold f_X3_needBath_0
  refine s_iload_n C0 dX3_needBath_0 rfl (lv_at hl 0 rfl) ?_
  refine s_bipush (v := 111) C0 dX3_needBath_1 (by decide) ?_
  refine s_icmp_eq (tgt := 29) C0 dX3_needBath_3 (by decide) (fun _ => ?_) (fun _ => ?_)
  · exact s_vretx C0 hh hR (Nat.le_of_ble_eq_true rfl) (Nat.le_of_ble_eq_true rfl) dX3_needBath_29
  · refine s_iload_n C0 dX3_needBath_6 rfl (lv_at hl 0 rfl) ?_
    refine s_bipush (v := 119) C0 dX3_needBath_7 (by decide) ?_
    refine s_icmp_eq (tgt := 29) C0 dX3_needBath_9 (by decide) (fun _ => ?_) (fun _ => ?_)
    · exact s_vretx C0 hh hR (Nat.le_of_ble_eq_true rfl) (Nat.le_of_ble_eq_true rfl) dX3_needBath_29
    · refine s_iload_n C0 dX3_needBath_12 rfl (lv_at hl 0 rfl) ?_
      refine s_bipush (v := 98) C0 dX3_needBath_13 (by decide) ?_
      refine s_icmp_eq (tgt := 29) C0 dX3_needBath_15 (by decide) (fun _ => ?_) (fun _ => ?_)
      · exact s_vretx C0 hh hR (Nat.le_of_ble_eq_true rfl) (Nat.le_of_ble_eq_true rfl) dX3_needBath_29
      · exact s_thrw (text := "no such bath") C0 hh ax167 w165 w166 (by decide) hl.1 dX3_needBath_18 dX3_needBath_21 dX3_needBath_22 dX3_needBath_25 dX3_needBath_28 hout (Nat.le_of_ble_eq_true rfl) (Nat.le_of_ble_eq_true rfl) (Nat.le_of_ble_eq_true rfl) (Nat.le_of_ble_eq_true rfl) (Nat.le_of_ble_eq_true rfl) (Nat.le_of_ble_eq_true rfl)
def f_X3_needBath (σ : Sg) (x0 : Int32) : Option ((Nat ⊕ Unit) × Sg) := f_X3_needBath_0 σ x0
set_option maxRecDepth 100000 in
set_option maxHeartbeats 4000000 in
theorem c_X3_needBath (hst : l.stackTraces = false) (σ : Sg) (x0 : Int32) : CtX l yX3_needBath (wm yX3_needBath cX3_needBath 1 none) rmX3_needBath 1 6 vV [.int x0] D cy n0 ad nT nO  σ (f_X3_needBath σ x0) := by
  intro r0 h0
  refine vx_ofW (cc := cX3_needBath) (maxL := 1) (ret := none) (by decide +kernel) rfl ?_
  intro p e s m args below meth c s₁ B hml hout hv
  obtain ⟨C0, hh, hR, rfl⟩ := ent B hml hst hv
  rw [lg_entry_eq]
  have hl := lv_entry ([.int x0]) (n := 1) (Nat.le_of_ble_eq_true rfl)
  generalize (lg_sl ([.int x0]) ++ List.replicate (1 - (lg_sl ([.int x0])).length) Slot.unset).toArray = ls at hl ⊢
  exact b_X3_needBath_0 C0 hR hout σ x0 _ _ _ hh hl r0 h0

def rmX3_needWithin : Room := { frames := 6, cells := 1, slots := 6, locals := 90 }
def f_X3_needWithin_0 (σ : Sg) (x0 : Int32) (x1 : Int32) (x2 : Int32) : Option ((Nat ⊕ Unit) × Sg) :=
  (if (x0 : Int32) < x1 then (some (.inl 2, σ)) else (if (x0 : Int32) ≤ x2 then (some (.inr (), σ)) else (some (.inl 2, σ))))
set_option maxRecDepth 100000 in
set_option maxHeartbeats 4000000 in
theorem b_X3_needWithin_0 (C0 : Cx p l s m args meth c cX3_needWithin 3 RX3 D cy n0) (hR : meth.sig.returnType = none) (hout : ∀ x ∈ c.exceptionTable.toList, False) (σ : Sg) (x0 : Int32) (x1 : Int32) (x2 : Int32) (H : Heap) (locs : List Loc) (ls : Array Slot) (hh : Hp D cy n0 ad nT nO s σ H locs) (hl : lv_has ls 3 [(0, .int x0), (1, .int x1), (2, .int x2)]) : Sm (Qz below args s D cy n0 ad nT nO vV 1 6) (f_X3_needWithin_0 σ x0 x1 x2) p l e rmX3_needWithin s m args below meth c H locs 0 0 (F0 m 0 ls []) := by
  unfold f_X3_needWithin_0
  refine s_iload_n C0 dX3_needWithin_0 rfl (lv_at hl 0 rfl) ?_
  refine s_iload_n C0 dX3_needWithin_1 rfl (lv_at hl 1 rfl) ?_
  refine s_icmp_lt (tgt := 10) C0 dX3_needWithin_2 (by decide) (fun _ => ?_) (fun _ => ?_)
  · exact s_thrw (text := "a number is out of range") C0 hh ax167 w165 w166 (by decide) hl.1 dX3_needWithin_10 dX3_needWithin_13 dX3_needWithin_14 dX3_needWithin_17 dX3_needWithin_20 hout (Nat.le_of_ble_eq_true rfl) (Nat.le_of_ble_eq_true rfl) (Nat.le_of_ble_eq_true rfl) (Nat.le_of_ble_eq_true rfl) (Nat.le_of_ble_eq_true rfl) (Nat.le_of_ble_eq_true rfl)
  · refine s_iload_n C0 dX3_needWithin_5 rfl (lv_at hl 0 rfl) ?_
    refine s_iload_n C0 dX3_needWithin_6 rfl (lv_at hl 2 rfl) ?_
    refine s_icmp_le (tgt := 21) C0 dX3_needWithin_7 (by decide) (fun _ => ?_) (fun _ => ?_)
    · exact s_vretx C0 hh hR (Nat.le_of_ble_eq_true rfl) (Nat.le_of_ble_eq_true rfl) dX3_needWithin_21
    · exact s_thrw (text := "a number is out of range") C0 hh ax167 w165 w166 (by decide) hl.1 dX3_needWithin_10 dX3_needWithin_13 dX3_needWithin_14 dX3_needWithin_17 dX3_needWithin_20 hout (Nat.le_of_ble_eq_true rfl) (Nat.le_of_ble_eq_true rfl) (Nat.le_of_ble_eq_true rfl) (Nat.le_of_ble_eq_true rfl) (Nat.le_of_ble_eq_true rfl) (Nat.le_of_ble_eq_true rfl)
def f_X3_needWithin (σ : Sg) (x0 : Int32) (x1 : Int32) (x2 : Int32) : Option ((Nat ⊕ Unit) × Sg) := f_X3_needWithin_0 σ x0 x1 x2
set_option maxRecDepth 100000 in
set_option maxHeartbeats 4000000 in
theorem c_X3_needWithin (hst : l.stackTraces = false) (σ : Sg) (x0 : Int32) (x1 : Int32) (x2 : Int32) : CtX l yX3_needWithin (wm yX3_needWithin cX3_needWithin 3 none) rmX3_needWithin 1 6 vV [.int x0, .int x1, .int x2] D cy n0 ad nT nO  σ (f_X3_needWithin σ x0 x1 x2) := by
  intro r0 h0
  refine vx_ofW (cc := cX3_needWithin) (maxL := 3) (ret := none) (by decide +kernel) rfl ?_
  intro p e s m args below meth c s₁ B hml hout hv
  obtain ⟨C0, hh, hR, rfl⟩ := ent B hml hst hv
  rw [lg_entry_eq]
  have hl := lv_entry ([.int x0, .int x1, .int x2]) (n := 3) (Nat.le_of_ble_eq_true rfl)
  generalize (lg_sl ([.int x0, .int x1, .int x2]) ++ List.replicate (3 - (lg_sl ([.int x0, .int x1, .int x2])).length) Slot.unset).toArray = ls at hl ⊢
  exact b_X3_needWithin_0 C0 hR hout σ x0 x1 x2 _ _ _ hh hl r0 h0

theorem qc17 {R : Room} {s : State} {args : Array Value} (ht : ∀ w ∈ allw, w.before args s = true) (hR : (rmX2_init).frames + 1 ≤ R.frames ∧ 8 + (5 + 11) + (rmX2_init).locals ≤ R.locals) : CallB R s args RX3 51 yX2_init cX2_init 5 none (wm yX2_init cX2_init 5 none) rmX2_init 4 188 4 ∧ yX2_init.name = "<init>" ∧ (Cond.instanceMethod yX2_init).before args s = true := cwI 4 ht (gd_of (fun _ h => h) _ (mC0 w171)) rfl rfl rfl (ht _ w102) (ht _ w170) (ht _ w172) rfl (by decide +kernel) hR
theorem qc18 {R : Room} {s : State} {args : Array Value} (ht : ∀ w ∈ allw, w.before args s = true) (hR : (rmX0_init).frames + 1 ≤ R.frames ∧ 8 + (4 + 11) + (rmX0_init).locals ≤ R.locals) : CallB R s args RX3 202 yX0_init cX0_init 4 none (wm yX0_init cX0_init 4 none) rmX0_init 0 0 3 ∧ yX0_init.name = "<init>" ∧ (Cond.instanceMethod yX0_init).before args s = true := cwI 3 ht (gd_of (fun _ h => h) _ (mC0 w177)) rfl rfl rfl (ht _ w175) (ht _ w176) (ht _ w178) rfl (by decide +kernel) hR
theorem qc19 {R : Room} {s : State} {args : Array Value} (ht : ∀ w ∈ allw, w.before args s = true) (hR : (rmX3_needShape).frames + 1 ≤ R.frames ∧ 8 + (1 + 11) + (rmX3_needShape).locals ≤ R.locals) : CallB R s args RX3 32 yX3_needShape cX3_needShape 1 none (wm yX3_needShape cX3_needShape 1 none) rmX3_needShape 1 6 1 ∧ (Cond.static yX3_needShape).before args s = true := cwS 1 ht (gd_of (fun _ h => h) _ (mS w179 w181 w64 w180)) rfl rfl rfl (by decide +kernel) hR
theorem qc20 {R : Room} {s : State} {args : Array Value} (ht : ∀ w ∈ allw, w.before args s = true) (hR : (rmX3_needWithin).frames + 1 ≤ R.frames ∧ 8 + (3 + 11) + (rmX3_needWithin).locals ≤ R.locals) : CallB R s args RX3 36 yX3_needWithin cX3_needWithin 3 none (wm yX3_needWithin cX3_needWithin 3 none) rmX3_needWithin 1 6 3 ∧ (Cond.static yX3_needWithin).before args s = true := cwS 3 ht (gd_of (fun _ h => h) _ (mS w182 w184 w64 w183)) rfl rfl rfl (by decide +kernel) hR
def rmX3_blank : Room := { frames := 7, cells := 9, slots := 226, locals := 112 }
set_option maxRecDepth 100000 in
set_option maxHeartbeats 8000000 in
theorem tlp_blank (C0 : Cx p l s m args meth c cX3_blank 5 RX3 D cy n0) (hR : meth.sig.returnType = (some .int)) (σ : Sg) (x1 x2 x3 x4 : Int32) (hT : (σ.1 0 0 1).toNatClampNeg = nT) (H : Heap) (locs : List Loc) (ls : Array Slot) (hh : Hp D cy n0 ad nT nO s σ H locs) (hl : lv_has ls 5 [(0, .ref (ad 0 0)), (1, .int x1), (2, .int x2), (3, .int x3), (4, .int x4)]) : Sm (QzB below args s D cy n0 ad nT nO 1 0 9 226) (tl_blank σ x1 x2 x3 x4) p l e rmX3_blank s m args below meth c H locs 4 24 (F0 m 50 ls []) := by
  unfold tl_blank
  refine s_aload_n C0 dX3_blank_50 rfl (lv_at hl 0 rfl) ?_
  refine s_get (v := .ref (ad 10 0)) C0 hh (rl_b (by decide)) rfl (T := TX3) (N := 6) rfl hinX3 (by decide) w26 rfl dX3_blank_51 ?_
  refine s_aload_n C0 dX3_blank_54 rfl (lv_at hl 0 rfl) ?_
  refine s_get (v := .int (σ.1 0 0 1)) C0 hh (rl_b (by decide)) rfl (T := TX3) (N := 6) rfl hinX3 (by decide) w168 rfl dX3_blank_55 ?_
  by_cases hj : (σ.1 0 0 1) < 0 ∨ 8 ≤ (σ.1 0 0 1).toNatClampNeg
  · rw [if_pos hj]; exact fun _ h => by cases h
  rw [if_neg hj]
  by_cases hc : (x1.toUInt32 % 65536).toInt32 = x1
  case neg => rw [if_neg hc]; exact fun _ h => by cases h
  rw [if_pos hc]
  intro r h
  have hlt : nT < 8 := by rw [← hT]; exact Nat.lt_of_not_le (fun h9 => hj (Or.inr h9))
  have hh0 : HL D n0 s (wd ad cy σ nT nO ++ []) H locs := by rw [List.append_nil]; exact ⟨hh.1, hh.2.1, hh.2.2.1⟩
  refine n_new (T := TX2) (N := 14) (ci := 2) (fs := [.int 0, .int 0, .int 0, .int 0, .int 0, .null, .int 0, .int 0, .int 0, .int 0, .int 0, .int 0, .int 0, .int 0]) C0 hh0 hinX2 tyX2 tyX2_ok w25 w169 w102 rfl dfX2 (Nat.le_of_ble_eq_true rfl) (Nat.le_of_ble_eq_true rfl) dX3_blank_58 (fun q1 H hh1 => ?_)
  refine lv_dup C0.1.1 C0.1.2.1 dX3_blank_61 rfl ?_
  refine lv_iload_n C0.1.1 C0.1.2.1 dX3_blank_62 rfl (lv_at hl 1 rfl) ?_
  refine lv_iload_n C0.1.1 C0.1.2.1 dX3_blank_63 rfl (lv_at hl 2 rfl) ?_
  refine lv_iload_n C0.1.1 C0.1.2.1 dX3_blank_64 rfl (lv_at hl 3 rfl) ?_
  refine lv_iload C0.1.1 C0.1.2.1 dX3_blank_65 (lv_at hl 4 rfl) ?_
  have hh2 : HL D n0 s (wd ad cy σ nT nO ++ [(q1, .inr (2, [.int 0, .int 0, .int 0, .int 0, .int 0, .null, .int 0, .int 0, .int 0, .int 0, .int 0, .int 0, .int 0, .int 0]))]) H locs := hh1
  refine n_call (As := [.int x1, .int x2, .int x3, .int x4]) (rest := [.ref q1, .int (σ.1 0 0 1), .ref (ad 10 0)]) C0 hh2 (c_X2_init C0.2.2.2.2.2.2 q1 x1 x2 x3 x4 hc) (qc17 C0.1.2.2.2.2 ⟨Nat.le_of_ble_eq_true rfl, Nat.le_of_ble_eq_true rfl⟩) rfl hl.1 rfl (lv_room (Nat.le_of_ble_eq_true rfl)) dX3_blank_67 ⟨Nat.le_of_ble_eq_true rfl, Nat.le_of_ble_eq_true rfl⟩ (fun L' H locs hp hh3 => ?_)
  obtain ⟨q2, q3, q4, q5, rfl⟩ := hp
  have hg := grow_T (x1 := x1) (x2 := x2) (x3 := x3) (x4 := x4) hlt hh.2.2.2.1 hh3
  have hv : q1 = (adT ad nT q1 q2 q3 q4 q5) 1 nT := (if_pos rfl : (if nT = nT then q1 else ad 1 nT) = q1).symm
  have hx : AdX ad (adT ad nT q1 q2 q3 q4 q5) := by
    intro k hk
    rcases hk with rfl | rfl | rfl | rfl <;> rfl
  have hl : lv_has ls 5 [(0, .ref ((adT ad nT q1 q2 q3 q4 q5) 0 0)), (1, .int x1), (2, .int x2), (3, .int x3), (4, .int x4)] := hl
  have hrow : (nwT σ nT x1 x2 x3 x4).1 0 0 = σ.1 0 0 := by exact nwT_old (by omega)
  refine (show Sm (QzB below args s D cy n0 ad nT nO 1 0 9 226) (some (.inr ((σ.1 0 0 1) + 1 - 1), sv (sv (nwT σ nT x1 x2 x3 x4) 10 0 nT 1) 0 0 1 ((σ.1 0 0 1) + 1))) p l e rmX3_blank s m args below meth c H locs _ _ (F0 m 70 ls [.ref q1, .int (σ.1 0 0 1), .ref ((adT ad nT q1 q2 q3 q4 q5) 10 0)]) from ?_) r (by rw [← hT] ; exact h)
  refine s_aastT C0 hg hv hT (Nat.lt_succ_self _) hj dX3_blank_70 (fun H locs hg => ?_)
  refine s_aload_n C0 dX3_blank_71 rfl (lv_at hl 0 rfl) ?_
  refine s_dup C0 dX3_blank_72 rfl ?_
  refine s_getq (v := .int ((sv (nwT σ nT x1 x2 x3 x4) 10 0 nT 1).1 0 0 1)) C0 hg (rl_b (by decide)) rfl (T := TX3) (N := 6) rfl hinX3 (by decide) w168 rfl dX3_blank_73 ?_
  refine s_iconst (v := 1) C0 dX3_blank_76 (by decide) ?_
  refine s_iadd C0 dX3_blank_77 ?_
  rw [show (sv (nwT σ nT x1 x2 x3 x4) 10 0 nT 1).1 0 0 1 = σ.1 0 0 1 from (congrFun (sv_ne (nwT σ nT x1 x2 x3 x4) nT 1 (by omega)) 1).trans (congrFun hrow 1)]
  refine s_putq C0 hg (rl_b (by decide)) rfl rfl (T := TX3) (N := 6) rfl hinX3 tyX3 tyX3_ok nmX3 (by decide) w168 rfl (ty := .int) (by decide +kernel) rfl rfl (Nat.le_of_ble_eq_true rfl) (by decide) (by decide) dX3_blank_78 (fun H locs hg => ?_)
  refine s_aload_n C0 dX3_blank_81 rfl (lv_at hl 0 rfl) ?_
  refine s_getq (v := .int ((sv (sv (nwT σ nT x1 x2 x3 x4) 10 0 nT 1) 0 0 1 (σ.1 0 0 1 + 1)).1 0 0 1)) C0 hg (rl_b (by decide)) rfl (T := TX3) (N := 6) rfl hinX3 (by decide) w168 rfl dX3_blank_82 ?_
  rw [show (sv (sv (nwT σ nT x1 x2 x3 x4) 10 0 nT 1) 0 0 1 (σ.1 0 0 1 + 1)).1 0 0 1 = σ.1 0 0 1 + 1 from by rw [sv_at]; exact if_pos rfl]
  refine s_iconst (v := 1) C0 dX3_blank_85 (by decide) ?_
  refine s_isub C0 dX3_blank_86 ?_
  have hlk : (sv (sv (nwT σ nT x1 x2 x3 x4) 10 0 nT 1) 0 0 1 (σ.1 0 0 1 + 1)).1 0 0 = upd (σ.1 0 0) 1 (σ.1 0 0 1 + 1) := by rw [sv_at, sv_ne (nwT σ nT x1 x2 x3 x4) nT 1 (by omega), hrow]
  have hpl : (σ.1 0 0 1 + 1).toNatClampNeg = nT + 1 := by rw [← hT]; exact cnt_1 hj
  have hgp := hq_p hg (show (nT + 1) = _ by rw [hlk]; exact hpl.symm) (show nO = _ by rw [hlk]; exact hh.2.2.2.2.2)
  exact s_iretB (nT := nT) (nO := nO) (dT := 1) (dO := 0) C0 hx hgp hR rfl (Nat.le_of_ble_eq_true rfl) (Nat.le_of_ble_eq_true rfl) dX3_blank_87
def f_X3_blank_0 (σ : Sg) (x1 : Int32) (x2 : Int32) (x3 : Int32) (x4 : Int32) : Option ((Nat ⊕ Int32) × Sg) :=
  (bx (f_X3_needShape σ x1) (fun r1 => (bx (f_X3_needWithin r1.2 x2 50 200) (fun r2 => (bx (f_X3_needWithin r2.2 x3 20 99) (fun r3 => (bx (f_X3_needWithin r3.2 x4 40 140) (fun r4 => (if ((r4.2.1 0 0 1) : Int32) < (8 : Int32) then (tl_blank r4.2 x1 x2 x3 x4) else (some (.inl 3, r4.2)))) (fun x => some (.inl x.1, x.2)))) (fun x => some (.inl x.1, x.2)))) (fun x => some (.inl x.1, x.2)))) (fun x => some (.inl x.1, x.2)))
set_option maxRecDepth 100000 in
set_option maxHeartbeats 4000000 in
theorem b_X3_blank_0 (C0 : Cx p l s m args meth c cX3_blank 5 RX3 D cy n0) (hR : meth.sig.returnType = (some .int)) (hout : ∀ x ∈ c.exceptionTable.toList, False) (σ : Sg) (x1 : Int32) (x2 : Int32) (x3 : Int32) (x4 : Int32) (H : Heap) (locs : List Loc) (ls : Array Slot) (hh : Hp D cy n0 ad nT nO s σ H locs) (hl : lv_has ls 5 [(0, .ref (ad 0 0)), (1, .int x1), (2, .int x2), (3, .int x3), (4, .int x4)]) : Sm (QzB below args s D cy n0 ad nT nO 1 0 9 226) (f_X3_blank_0 σ x1 x2 x3 x4) p l e rmX3_blank s m args below meth c H locs 0 0 (F0 m 0 ls []) := by
  unfold f_X3_blank_0
  refine s_iload_n C0 dX3_blank_0 rfl (lv_at hl 1 rfl) ?_
  refine s_Sx (As := [.int x1]) (rest := []) C0 hh (c_X3_needShape C0.2.2.2.2.2.2 _ x1) (qc19 C0.1.2.2.2.2 ⟨Nat.le_of_ble_eq_true rfl, Nat.le_of_ble_eq_true rfl⟩) rfl hl.1 rfl (lv_room (Nat.le_of_ble_eq_true rfl)) dX3_blank_1 ⟨Nat.le_of_ble_eq_true rfl, Nat.le_of_ble_eq_true rfl⟩ hout (Nat.le_of_ble_eq_true rfl) (Nat.le_of_ble_eq_true rfl) (fun r1 H locs hor1 hh => ?_)
  refine s_iload_n C0 dX3_blank_4 rfl (lv_at hl 2 rfl) ?_
  refine s_bipush (v := 50) C0 dX3_blank_5 (by decide) ?_
  refine s_sipush (v := 200) C0 dX3_blank_7 (by decide) ?_
  refine s_Sx (As := [.int x2, .int 50, .int 200]) (rest := []) C0 hh (c_X3_needWithin C0.2.2.2.2.2.2 _ x2 50 200) (qc20 C0.1.2.2.2.2 ⟨Nat.le_of_ble_eq_true rfl, Nat.le_of_ble_eq_true rfl⟩) rfl hl.1 rfl (lv_room (Nat.le_of_ble_eq_true rfl)) dX3_blank_10 ⟨Nat.le_of_ble_eq_true rfl, Nat.le_of_ble_eq_true rfl⟩ hout (Nat.le_of_ble_eq_true rfl) (Nat.le_of_ble_eq_true rfl) (fun r2 H locs hor2 hh => ?_)
  refine s_iload_n C0 dX3_blank_13 rfl (lv_at hl 3 rfl) ?_
  refine s_bipush (v := 20) C0 dX3_blank_14 (by decide) ?_
  refine s_bipush (v := 99) C0 dX3_blank_16 (by decide) ?_
  refine s_Sx (As := [.int x3, .int 20, .int 99]) (rest := []) C0 hh (c_X3_needWithin C0.2.2.2.2.2.2 _ x3 20 99) (qc20 C0.1.2.2.2.2 ⟨Nat.le_of_ble_eq_true rfl, Nat.le_of_ble_eq_true rfl⟩) rfl hl.1 rfl (lv_room (Nat.le_of_ble_eq_true rfl)) dX3_blank_18 ⟨Nat.le_of_ble_eq_true rfl, Nat.le_of_ble_eq_true rfl⟩ hout (Nat.le_of_ble_eq_true rfl) (Nat.le_of_ble_eq_true rfl) (fun r3 H locs hor3 hh => ?_)
  refine s_iload C0 dX3_blank_21 (lv_at hl 4 rfl) ?_
  refine s_bipush (v := 40) C0 dX3_blank_23 (by decide) ?_
  refine s_sipush (v := 140) C0 dX3_blank_25 (by decide) ?_
  refine s_Sx (As := [.int x4, .int 40, .int 140]) (rest := []) C0 hh (c_X3_needWithin C0.2.2.2.2.2.2 _ x4 40 140) (qc20 C0.1.2.2.2.2 ⟨Nat.le_of_ble_eq_true rfl, Nat.le_of_ble_eq_true rfl⟩) rfl hl.1 rfl (lv_room (Nat.le_of_ble_eq_true rfl)) dX3_blank_28 ⟨Nat.le_of_ble_eq_true rfl, Nat.le_of_ble_eq_true rfl⟩ hout (Nat.le_of_ble_eq_true rfl) (Nat.le_of_ble_eq_true rfl) (fun r4 H locs hor4 hh => ?_)
  refine s_aload_n C0 dX3_blank_31 rfl (lv_at hl 0 rfl) ?_
  refine s_get (v := .int (r4.2.1 0 0 1)) C0 hh (rl_b (by decide)) rfl (T := TX3) (N := 6) rfl hinX3 (by decide) w168 rfl dX3_blank_32 ?_
  refine s_bipush (v := 8) C0 dX3_blank_35 (by decide) ?_
  refine s_icmp_lt (tgt := 50) C0 dX3_blank_37 (by decide) (fun _ => ?_) (fun _ => ?_)
  · exact tlp_blank C0 hR r4.2 x1 x2 x3 x4 hh.2.2.2.2.1.symm _ _ _ hh (lv_sub hl [0, 1, 2, 3, 4] rfl)
  · exact s_thr (text := "there were 8 tools") C0 hh ax187 w185 w186 (by decide) hl.1 dX3_blank_40 dX3_blank_43 dX3_blank_44 dX3_blank_46 dX3_blank_49 hout (Nat.le_of_ble_eq_true rfl) (Nat.le_of_ble_eq_true rfl) (Nat.le_of_ble_eq_true rfl) (Nat.le_of_ble_eq_true rfl) (Nat.le_of_ble_eq_true rfl) (Nat.le_of_ble_eq_true rfl)
def f_X3_blank (σ : Sg) (x1 : Int32) (x2 : Int32) (x3 : Int32) (x4 : Int32) : Option ((Nat ⊕ Int32) × Sg) := f_X3_blank_0 σ x1 x2 x3 x4
set_option maxRecDepth 100000 in
set_option maxHeartbeats 4000000 in
theorem c_X3_blank (hst : l.stackTraces = false) (σ : Sg) (x1 : Int32) (x2 : Int32) (x3 : Int32) (x4 : Int32) : CtB l yX3_blank (wm yX3_blank cX3_blank 5 (some .int)) rmX3_blank 9 226  [.ref (ad 0 0), .int x1, .int x2, .int x3, .int x4] D cy n0 ad nT nO 1 0 σ (f_X3_blank σ x1 x2 x3 x4) := by
  intro r0 h0
  refine vx_ofW (cc := cX3_blank) (maxL := 5) (ret := (some .int)) (by decide +kernel) rfl ?_
  intro p e s m args below meth c s₁ B hml hout hv
  obtain ⟨C0, hh, hR, rfl⟩ := ent B hml hst hv
  rw [lg_entry_eq]
  have hl := lv_entry ([.ref (ad 0 0), .int x1, .int x2, .int x3, .int x4]) (n := 5) (Nat.le_of_ble_eq_true rfl)
  generalize (lg_sl ([.ref (ad 0 0), .int x1, .int x2, .int x3, .int x4]) ++ List.replicate (5 - (lg_sl ([.ref (ad 0 0), .int x1, .int x2, .int x3, .int x4])).length) Slot.unset).toArray = ls at hl ⊢
  exact b_X3_blank_0 C0 hR hout σ x1 x2 x3 x4 _ _ _ hh hl r0 h0
theorem qc21 {R : Room} {s : State} {args : Array Value} (ht : ∀ w ∈ allw, w.before args s = true) (hR : (rmX3_needCut).frames + 1 ≤ R.frames ∧ 8 + (1 + 11) + (rmX3_needCut).locals ≤ R.locals) : CallB R s args RX3 58 yX3_needCut cX3_needCut 1 none (wm yX3_needCut cX3_needCut 1 none) rmX3_needCut 1 6 1 ∧ (Cond.static yX3_needCut).before args s = true := cwS 1 ht (gd_of (fun _ h => h) _ (mS w188 w190 w64 w189)) rfl rfl rfl (by decide +kernel) hR
def rmX3_order : Room := { frames := 7, cells := 4, slots := 24, locals := 112 }
set_option maxRecDepth 100000 in
set_option maxHeartbeats 8000000 in
theorem tlp_order (C0 : Cx p l s m args meth c cX3_order 4 RX3 D cy n0) (hR : meth.sig.returnType = (some .int)) (σ : Sg) (x1 x2 x3 : Int32) (hT : (σ.1 0 0 3).toNatClampNeg = nO) (H : Heap) (locs : List Loc) (ls : Array Slot) (hh : Hp D cy n0 ad nT nO s σ H locs) (hl : lv_has ls 4 [(0, .ref (ad 0 0)), (1, .int x1), (2, .int x2), (3, .int x3)]) : Sm (QzB below args s D cy n0 ad nT nO 0 1 4 24) (tl_order σ x1 x2 x3) p l e rmX3_order s m args below meth c H locs 3 18 (F0 m 34 ls []) := by
  unfold tl_order
  refine s_aload_n C0 dX3_order_34 rfl (lv_at hl 0 rfl) ?_
  refine s_get (v := .ref (ad 11 0)) C0 hh (rl_b (by decide)) rfl (T := TX3) (N := 6) rfl hinX3 (by decide) w28 rfl dX3_order_35 ?_
  refine s_aload_n C0 dX3_order_38 rfl (lv_at hl 0 rfl) ?_
  refine s_get (v := .int (σ.1 0 0 3)) C0 hh (rl_b (by decide)) rfl (T := TX3) (N := 6) rfl hinX3 (by decide) w173 rfl dX3_order_39 ?_
  by_cases hj : (σ.1 0 0 3) < 0 ∨ 6 ≤ (σ.1 0 0 3).toNatClampNeg
  · rw [if_pos hj]; exact fun _ h => by cases h
  rw [if_neg hj]
  by_cases hc : (x1.toUInt32 % 65536).toInt32 = x1 ∧ (x2.toUInt32 % 65536).toInt32 = x2
  case neg => rw [if_neg hc]; exact fun _ h => by cases h
  rw [if_pos hc]
  intro r h
  have hlt : nO < 6 := by rw [← hT]; exact Nat.lt_of_not_le (fun h9 => hj (Or.inr h9))
  have hh0 : HL D n0 s (wd ad cy σ nT nO ++ []) H locs := by rw [List.append_nil]; exact ⟨hh.1, hh.2.1, hh.2.2.1⟩
  refine n_new (T := TX0) (N := 4) (ci := 0) (fs := [.int 0, .int 0, .int 0, .int 0]) C0 hh0 hinX0 tyX0 tyX0_ok w27 w174 w175 rfl dfX0 (Nat.le_of_ble_eq_true rfl) (Nat.le_of_ble_eq_true rfl) dX3_order_42 (fun q1 H hh1 => ?_)
  refine lv_dup C0.1.1 C0.1.2.1 dX3_order_45 rfl ?_
  refine lv_iload_n C0.1.1 C0.1.2.1 dX3_order_46 rfl (lv_at hl 1 rfl) ?_
  refine lv_iload_n C0.1.1 C0.1.2.1 dX3_order_47 rfl (lv_at hl 2 rfl) ?_
  refine lv_iload_n C0.1.1 C0.1.2.1 dX3_order_48 rfl (lv_at hl 3 rfl) ?_
  have hh2 : HL D n0 s (wd ad cy σ nT nO ++ [(q1, .inr (0, [.int 0, .int 0, .int 0, .int 0]))]) H locs := hh1
  refine n_call (As := [.int x1, .int x2, .int x3]) (rest := [.ref q1, .int (σ.1 0 0 3), .ref (ad 11 0)]) C0 hh2 (c_X0_init C0.2.2.2.2.2.2 q1 x1 x2 x3 hc.1 hc.2) (qc18 C0.1.2.2.2.2 ⟨Nat.le_of_ble_eq_true rfl, Nat.le_of_ble_eq_true rfl⟩) rfl hl.1 rfl (lv_room (Nat.le_of_ble_eq_true rfl)) dX3_order_49 ⟨Nat.le_of_ble_eq_true rfl, Nat.le_of_ble_eq_true rfl⟩ (fun L' H locs hp hh3 => ?_)
  cases hp
  have hg := grow_O (x1 := x1) (x2 := x2) (x3 := x3) hh.2.2.2.1 hh3
  have hv : q1 = (adO ad nO q1) 6 nO := (if_pos rfl : (if nO = nO then q1 else ad 6 nO) = q1).symm
  have hx : AdX ad (adO ad nO q1) := by
    intro k hk
    rcases hk with rfl | rfl | rfl | rfl <;> rfl
  have hl : lv_has ls 4 [(0, .ref ((adO ad nO q1) 0 0)), (1, .int x1), (2, .int x2), (3, .int x3)] := hl
  have hrow : (sr σ 6 nO (og x1 x2 x3)).1 0 0 = σ.1 0 0 := by exact sr_ne _ _ (by omega)
  refine (show Sm (QzB below args s D cy n0 ad nT nO 0 1 4 24) (some (.inr ((σ.1 0 0 3) + 1 - 1), sv (sv (sr σ 6 nO (og x1 x2 x3)) 11 0 nO 1) 0 0 3 ((σ.1 0 0 3) + 1))) p l e rmX3_order s m args below meth c H locs _ _ (F0 m 52 ls [.ref q1, .int (σ.1 0 0 3), .ref ((adO ad nO q1) 11 0)]) from ?_) r (by rw [← hT] ; exact h)
  refine s_aastO C0 hg hv hT (Nat.lt_succ_self _) hj dX3_order_52 (fun H locs hg => ?_)
  refine s_aload_n C0 dX3_order_53 rfl (lv_at hl 0 rfl) ?_
  refine s_dup C0 dX3_order_54 rfl ?_
  refine s_getq (v := .int ((sv (sr σ 6 nO (og x1 x2 x3)) 11 0 nO 1).1 0 0 3)) C0 hg (rl_b (by decide)) rfl (T := TX3) (N := 6) rfl hinX3 (by decide) w173 rfl dX3_order_55 ?_
  refine s_iconst (v := 1) C0 dX3_order_58 (by decide) ?_
  refine s_iadd C0 dX3_order_59 ?_
  rw [show (sv (sr σ 6 nO (og x1 x2 x3)) 11 0 nO 1).1 0 0 3 = σ.1 0 0 3 from (congrFun (sv_ne (sr σ 6 nO (og x1 x2 x3)) nO 1 (by omega)) 3).trans (congrFun hrow 3)]
  refine s_putq C0 hg (rl_b (by decide)) rfl rfl (T := TX3) (N := 6) rfl hinX3 tyX3 tyX3_ok nmX3 (by decide) w173 rfl (ty := .int) (by decide +kernel) rfl rfl (Nat.le_of_ble_eq_true rfl) (by decide) (by decide) dX3_order_60 (fun H locs hg => ?_)
  refine s_aload_n C0 dX3_order_63 rfl (lv_at hl 0 rfl) ?_
  refine s_getq (v := .int ((sv (sv (sr σ 6 nO (og x1 x2 x3)) 11 0 nO 1) 0 0 3 (σ.1 0 0 3 + 1)).1 0 0 3)) C0 hg (rl_b (by decide)) rfl (T := TX3) (N := 6) rfl hinX3 (by decide) w173 rfl dX3_order_64 ?_
  rw [show (sv (sv (sr σ 6 nO (og x1 x2 x3)) 11 0 nO 1) 0 0 3 (σ.1 0 0 3 + 1)).1 0 0 3 = σ.1 0 0 3 + 1 from by rw [sv_at]; exact if_pos rfl]
  refine s_iconst (v := 1) C0 dX3_order_67 (by decide) ?_
  refine s_isub C0 dX3_order_68 ?_
  have hlk : (sv (sv (sr σ 6 nO (og x1 x2 x3)) 11 0 nO 1) 0 0 3 (σ.1 0 0 3 + 1)).1 0 0 = upd (σ.1 0 0) 3 (σ.1 0 0 3 + 1) := by rw [sv_at, sv_ne (sr σ 6 nO (og x1 x2 x3)) nO 1 (by omega), hrow]
  have hpl : (σ.1 0 0 3 + 1).toNatClampNeg = nO + 1 := by rw [← hT]; exact cnt_1 hj
  have hgp := hq_p hg (show nT = _ by rw [hlk]; exact hh.2.2.2.2.1) (show (nO + 1) = _ by rw [hlk]; exact hpl.symm)
  exact s_iretB (nT := nT) (nO := nO) (dT := 0) (dO := 1) C0 hx hgp hR rfl (Nat.le_of_ble_eq_true rfl) (Nat.le_of_ble_eq_true rfl) dX3_order_69
def f_X3_order_0 (σ : Sg) (x1 : Int32) (x2 : Int32) (x3 : Int32) : Option ((Nat ⊕ Int32) × Sg) :=
  (bx (f_X3_needShape σ x1) (fun r1 => (bx (f_X3_needCut r1.2 x2) (fun r2 => (bx (f_X3_needWithin r2.2 x3 1 8) (fun r3 => (if ((r3.2.1 0 0 3) : Int32) < (6 : Int32) then (tl_order r3.2 x1 x2 x3) else (some (.inl 3, r3.2)))) (fun x => some (.inl x.1, x.2)))) (fun x => some (.inl x.1, x.2)))) (fun x => some (.inl x.1, x.2)))
set_option maxRecDepth 100000 in
set_option maxHeartbeats 4000000 in
theorem b_X3_order_0 (C0 : Cx p l s m args meth c cX3_order 4 RX3 D cy n0) (hR : meth.sig.returnType = (some .int)) (hout : ∀ x ∈ c.exceptionTable.toList, False) (σ : Sg) (x1 : Int32) (x2 : Int32) (x3 : Int32) (H : Heap) (locs : List Loc) (ls : Array Slot) (hh : Hp D cy n0 ad nT nO s σ H locs) (hl : lv_has ls 4 [(0, .ref (ad 0 0)), (1, .int x1), (2, .int x2), (3, .int x3)]) : Sm (QzB below args s D cy n0 ad nT nO 0 1 4 24) (f_X3_order_0 σ x1 x2 x3) p l e rmX3_order s m args below meth c H locs 0 0 (F0 m 0 ls []) := by
  unfold f_X3_order_0
  refine s_iload_n C0 dX3_order_0 rfl (lv_at hl 1 rfl) ?_
  refine s_Sx (As := [.int x1]) (rest := []) C0 hh (c_X3_needShape C0.2.2.2.2.2.2 _ x1) (qc19 C0.1.2.2.2.2 ⟨Nat.le_of_ble_eq_true rfl, Nat.le_of_ble_eq_true rfl⟩) rfl hl.1 rfl (lv_room (Nat.le_of_ble_eq_true rfl)) dX3_order_1 ⟨Nat.le_of_ble_eq_true rfl, Nat.le_of_ble_eq_true rfl⟩ hout (Nat.le_of_ble_eq_true rfl) (Nat.le_of_ble_eq_true rfl) (fun r1 H locs hor1 hh => ?_)
  refine s_iload_n C0 dX3_order_4 rfl (lv_at hl 2 rfl) ?_
  refine s_Sx (As := [.int x2]) (rest := []) C0 hh (c_X3_needCut C0.2.2.2.2.2.2 _ x2) (qc21 C0.1.2.2.2.2 ⟨Nat.le_of_ble_eq_true rfl, Nat.le_of_ble_eq_true rfl⟩) rfl hl.1 rfl (lv_room (Nat.le_of_ble_eq_true rfl)) dX3_order_5 ⟨Nat.le_of_ble_eq_true rfl, Nat.le_of_ble_eq_true rfl⟩ hout (Nat.le_of_ble_eq_true rfl) (Nat.le_of_ble_eq_true rfl) (fun r2 H locs hor2 hh => ?_)
  refine s_iload_n C0 dX3_order_8 rfl (lv_at hl 3 rfl) ?_
  refine s_iconst (v := 1) C0 dX3_order_9 (by decide) ?_
  refine s_bipush (v := 8) C0 dX3_order_10 (by decide) ?_
  refine s_Sx (As := [.int x3, .int 1, .int 8]) (rest := []) C0 hh (c_X3_needWithin C0.2.2.2.2.2.2 _ x3 1 8) (qc20 C0.1.2.2.2.2 ⟨Nat.le_of_ble_eq_true rfl, Nat.le_of_ble_eq_true rfl⟩) rfl hl.1 rfl (lv_room (Nat.le_of_ble_eq_true rfl)) dX3_order_12 ⟨Nat.le_of_ble_eq_true rfl, Nat.le_of_ble_eq_true rfl⟩ hout (Nat.le_of_ble_eq_true rfl) (Nat.le_of_ble_eq_true rfl) (fun r3 H locs hor3 hh => ?_)
  refine s_aload_n C0 dX3_order_15 rfl (lv_at hl 0 rfl) ?_
  refine s_get (v := .int (r3.2.1 0 0 3)) C0 hh (rl_b (by decide)) rfl (T := TX3) (N := 6) rfl hinX3 (by decide) w173 rfl dX3_order_16 ?_
  refine s_bipush (v := 6) C0 dX3_order_19 (by decide) ?_
  refine s_icmp_lt (tgt := 34) C0 dX3_order_21 (by decide) (fun _ => ?_) (fun _ => ?_)
  · exact tlp_order C0 hR r3.2 x1 x2 x3 hh.2.2.2.2.2.symm _ _ _ hh (lv_sub hl [0, 1, 2, 3] rfl)
  · exact s_thr (text := "there are 6 orders") C0 hh ax187 w185 w186 (by decide) hl.1 dX3_order_24 dX3_order_27 dX3_order_28 dX3_order_30 dX3_order_33 hout (Nat.le_of_ble_eq_true rfl) (Nat.le_of_ble_eq_true rfl) (Nat.le_of_ble_eq_true rfl) (Nat.le_of_ble_eq_true rfl) (Nat.le_of_ble_eq_true rfl) (Nat.le_of_ble_eq_true rfl)
def f_X3_order (σ : Sg) (x1 : Int32) (x2 : Int32) (x3 : Int32) : Option ((Nat ⊕ Int32) × Sg) := f_X3_order_0 σ x1 x2 x3
set_option maxRecDepth 100000 in
set_option maxHeartbeats 4000000 in
theorem c_X3_order (hst : l.stackTraces = false) (σ : Sg) (x1 : Int32) (x2 : Int32) (x3 : Int32) : CtB l yX3_order (wm yX3_order cX3_order 4 (some .int)) rmX3_order 4 24  [.ref (ad 0 0), .int x1, .int x2, .int x3] D cy n0 ad nT nO 0 1 σ (f_X3_order σ x1 x2 x3) := by
  intro r0 h0
  refine vx_ofW (cc := cX3_order) (maxL := 4) (ret := (some .int)) (by decide +kernel) rfl ?_
  intro p e s m args below meth c s₁ B hml hout hv
  obtain ⟨C0, hh, hR, rfl⟩ := ent B hml hst hv
  rw [lg_entry_eq]
  have hl := lv_entry ([.ref (ad 0 0), .int x1, .int x2, .int x3]) (n := 4) (Nat.le_of_ble_eq_true rfl)
  generalize (lg_sl ([.ref (ad 0 0), .int x1, .int x2, .int x3]) ++ List.replicate (4 - (lg_sl ([.ref (ad 0 0), .int x1, .int x2, .int x3])).length) Slot.unset).toArray = ls at hl ⊢
  exact b_X3_order_0 C0 hR hout σ x1 x2 x3 _ _ _ hh hl r0 h0
theorem qc22 {R : Room} {s : State} {args : Array Value} (ht : ∀ w ∈ allw, w.before args s = true) (hR : (rmX3_needTool).frames + 1 ≤ R.frames ∧ 8 + (2 + 11) + (rmX3_needTool).locals ≤ R.locals) : CallW R s args RX3 RX3 54 yX3_needTool cX3_needTool 2 (some (.object "Teethrow$Tool")) (wm yX3_needTool cX3_needTool 2 (some (.object "Teethrow$Tool"))) rmX3_needTool 1 6 1 := cwV 1 ht (gd_of (fun _ h => h) _ (mV w191 w193 w194 w64 w192)) rfl rfl rfl (by decide +kernel) hR
theorem qc23 {R : Room} {s : State} {args : Array Value} (ht : ∀ w ∈ allw, w.before args s = true) (hR : (rmX3_depthOf).frames + 1 ≤ R.frames ∧ 8 + (3 + 11) + (rmX3_depthOf).locals ≤ R.locals) : CallB R s args RX3 65 yX3_depthOf cX3_depthOf 3 (some .int) (wm yX3_depthOf cX3_depthOf 3 (some .int)) rmX3_depthOf 0 0 2 ∧ (Cond.static yX3_depthOf).before args s = true := cwS 2 ht (gd_of (fun _ h => h) _ (mS w196 w198 w64 w197)) rfl rfl rfl (by decide +kernel) hR
theorem qc24 {R : Room} {s : State} {args : Array Value} (ht : ∀ w ∈ allw, w.before args s = true) (hR : (rmX1_fill).frames + 1 ≤ R.frames ∧ 8 + (7 + 11) + (rmX1_fill).locals ≤ R.locals) : CallW R s args RX3 RX1 89 yX1_fill cX1_fill 7 none (wm yX1_fill cX1_fill 7 none) rmX1_fill 0 0 4 := cwV 4 ht (gd_of (fun _ h => h) _ (mV w202 w204 w205 w15 w203)) rfl rfl rfl (by decide +kernel) hR
def rmX3_cut : Room := { frames := 7, cells := 4, slots := 24, locals := 112 }
def f_X3_cut_0 (σ : Sg) (x1 : Int32) (x2 : Int32) (x3 : Int32) : Option ((Nat ⊕ Int32) × Sg) :=
  (bx (f_X3_needTool σ x1) (fun r1 => (bx (f_X3_needCut r1.2 x2) (fun r3 => (bx (f_X3_needWithin r3.2 x3 0 3) (fun r4 => ((f_X3_depthOf r4.2 x2 (r4.2.1 1 r1.1 0)).bind (fun r5 => (if ((r5.2.1 1 r1.1 4) : Int32) = (115 : Int32) then (if (0 : Int32) < ((r5.2.1 2 r1.1 3) : Int32) then (some (.inl 4, r5.2)) else (if (r5.1 + 10) ≤ ((r5.2.1 1 r1.1 3) : Int32) then ((f_X1_fill r5.2 r1.1 x2 r5.1 x3 (r5.2.1 1 r1.1 1)).bind (fun r6 => (some (.inr (r6.2.1 2 r1.1 3), r6.2)))) else (some (.inl 4, r5.2)))) else (some (.inl 4, r5.2)))))) (fun x => some (.inl x.1, x.2)))) (fun x => some (.inl x.1, x.2)))) (fun x => some (.inl x.1, x.2)))
set_option maxRecDepth 100000 in
set_option maxHeartbeats 4000000 in
theorem b_X3_cut_0 (C0 : Cx p l s m args meth c cX3_cut 6 RX3 D cy n0) (hR : meth.sig.returnType = (some .int)) (hout : ∀ x ∈ c.exceptionTable.toList, False) (σ : Sg) (x1 : Int32) (x2 : Int32) (x3 : Int32) (H : Heap) (locs : List Loc) (ls : Array Slot) (hh : Hp D cy n0 ad nT nO s σ H locs) (hl : lv_has ls 6 [(0, .ref (ad 0 0)), (1, .int x1), (2, .int x2), (3, .int x3)]) : Sm (Qz below args s D cy n0 ad nT nO vI 4 24) (f_X3_cut_0 σ x1 x2 x3) p l e rmX3_cut s m args below meth c H locs 0 0 (F0 m 0 ls []) := by
  unfold f_X3_cut_0
  refine s_aload_n C0 dX3_cut_0 rfl (lv_at hl 0 rfl) ?_
  refine s_iload_n C0 dX3_cut_1 rfl (lv_at hl 1 rfl) ?_
  refine s_Vx (As := [.int x1]) (rest := []) C0 hh (c_X3_needTool C0.2.2.2.2.2.2 _ x1) (qc22 C0.1.2.2.2.2 ⟨Nat.le_of_ble_eq_true rfl, Nat.le_of_ble_eq_true rfl⟩) (rl_b (by decide)) rfl rfl rfl hl.1 rfl (lv_room (Nat.le_of_ble_eq_true rfl)) dX3_cut_2 ⟨Nat.le_of_ble_eq_true rfl, Nat.le_of_ble_eq_true rfl⟩ hout (Nat.le_of_ble_eq_true rfl) (Nat.le_of_ble_eq_true rfl) (fun r1 H locs hor1 hh => ?_)
  have hj2 := nT_lt hor1 hh.2.2.2
  refine s_astore (lv' := [(4, .ref (ad 1 r1.1)), (0, .ref (ad 0 0)), (1, .int x1), (2, .int x2), (3, .int x3)]) C0 dX3_cut_5 hl (by decide) rfl (fun ls hl => ?_)
  refine s_iload_n C0 dX3_cut_7 rfl (lv_at hl 3 rfl) ?_
  refine s_Sx (As := [.int x2]) (rest := []) C0 hh (c_X3_needCut C0.2.2.2.2.2.2 _ x2) (qc21 C0.1.2.2.2.2 ⟨Nat.le_of_ble_eq_true rfl, Nat.le_of_ble_eq_true rfl⟩) rfl hl.1 rfl (lv_room (Nat.le_of_ble_eq_true rfl)) dX3_cut_8 ⟨Nat.le_of_ble_eq_true rfl, Nat.le_of_ble_eq_true rfl⟩ hout (Nat.le_of_ble_eq_true rfl) (Nat.le_of_ble_eq_true rfl) (fun r3 H locs hor3 hh => ?_)
  refine s_iload_n C0 dX3_cut_11 rfl (lv_at hl 4 rfl) ?_
  refine s_iconst (v := 0) C0 dX3_cut_12 (by decide) ?_
  refine s_iconst (v := 3) C0 dX3_cut_13 (by decide) ?_
  refine s_Sx (As := [.int x3, .int 0, .int 3]) (rest := []) C0 hh (c_X3_needWithin C0.2.2.2.2.2.2 _ x3 0 3) (qc20 C0.1.2.2.2.2 ⟨Nat.le_of_ble_eq_true rfl, Nat.le_of_ble_eq_true rfl⟩) rfl hl.1 rfl (lv_room (Nat.le_of_ble_eq_true rfl)) dX3_cut_14 ⟨Nat.le_of_ble_eq_true rfl, Nat.le_of_ble_eq_true rfl⟩ hout (Nat.le_of_ble_eq_true rfl) (Nat.le_of_ble_eq_true rfl) (fun r4 H locs hor4 hh => ?_)
  refine s_iload_n C0 dX3_cut_17 rfl (lv_at hl 3 rfl) ?_
  refine s_aload C0 dX3_cut_18 (lv_at hl 0 rfl) ?_
  refine s_getN (v := .int (r4.2.1 1 r1.1 0)) C0 hh (rl_1 hj2) rfl (T := TX2) (N := 14) rfl hinX2 (by decide) w195 rfl dX3_cut_20 ?_
  refine s_S (As := [.int x2, .int (r4.2.1 1 r1.1 0)]) (rest := []) C0 hh (c_X3_depthOf C0.2.2.2.2.2.2 _ x2 (r4.2.1 1 r1.1 0)) (qc23 C0.1.2.2.2.2 ⟨Nat.le_of_ble_eq_true rfl, Nat.le_of_ble_eq_true rfl⟩) rfl hl.1 rfl (lv_room (Nat.le_of_ble_eq_true rfl)) dX3_cut_23 ⟨Nat.le_of_ble_eq_true rfl, Nat.le_of_ble_eq_true rfl⟩ (fun r5 H locs hor5 hh => ?_)
  refine s_istore (lv' := [(5, .int r5.1), (4, .ref (ad 1 r1.1)), (0, .ref (ad 0 0)), (1, .int x1), (2, .int x2), (3, .int x3)]) C0 dX3_cut_26 hl (by decide) rfl (fun ls hl => ?_)
  refine s_aload C0 dX3_cut_28 (lv_at hl 1 rfl) ?_
  refine s_getN (v := .int (r5.2.1 1 r1.1 4)) C0 hh (rl_1 hj2) rfl (T := TX2) (N := 14) rfl hinX2 (by decide) w161 rfl dX3_cut_30 ?_
  refine s_bipush (v := 115) C0 dX3_cut_33 (by decide) ?_
  refine s_icmp_ne (tgt := 62) C0 dX3_cut_35 (by decide) (fun _ => ?_) (fun _ => ?_)
  · exact s_thr (text := "not soft, toothed or too thin") C0 hh ax164 w162 w163 (by decide) hl.1 dX3_cut_62 dX3_cut_65 dX3_cut_66 dX3_cut_68 dX3_cut_71 hout (Nat.le_of_ble_eq_true rfl) (Nat.le_of_ble_eq_true rfl) (Nat.le_of_ble_eq_true rfl) (Nat.le_of_ble_eq_true rfl) (Nat.le_of_ble_eq_true rfl) (Nat.le_of_ble_eq_true rfl)
  · refine s_aload C0 dX3_cut_38 (lv_at hl 1 rfl) ?_
    refine s_getN (v := .ref (ad 2 r1.1)) C0 hh (rl_1 hj2) rfl (T := TX2) (N := 14) rfl hinX2 (by decide) w199 rfl dX3_cut_40 ?_
    refine s_getN (v := .int (r5.2.1 2 r1.1 3)) C0 hh (rl_2 (Or.inl hj2)) rfl (T := TX1) (N := 8) rfl hinX1 (by decide) w160 rfl dX3_cut_43 ?_
    refine s_if_gt (tgt := 62) C0 dX3_cut_46 (by decide) (fun _ => ?_) (fun _ => ?_)
    · exact s_thr (text := "not soft, toothed or too thin") C0 hh ax164 w162 w163 (by decide) hl.1 dX3_cut_62 dX3_cut_65 dX3_cut_66 dX3_cut_68 dX3_cut_71 hout (Nat.le_of_ble_eq_true rfl) (Nat.le_of_ble_eq_true rfl) (Nat.le_of_ble_eq_true rfl) (Nat.le_of_ble_eq_true rfl) (Nat.le_of_ble_eq_true rfl) (Nat.le_of_ble_eq_true rfl)
    · refine s_aload C0 dX3_cut_49 (lv_at hl 1 rfl) ?_
      refine s_getN (v := .int (r5.2.1 1 r1.1 3)) C0 hh (rl_1 hj2) rfl (T := TX2) (N := 14) rfl hinX2 (by decide) w200 rfl dX3_cut_51 ?_
      refine s_iload C0 dX3_cut_54 (lv_at hl 0 rfl) ?_
      refine s_bipush (v := 10) C0 dX3_cut_56 (by decide) ?_
      refine s_iadd C0 dX3_cut_58 ?_
      refine s_icmp_ge (tgt := 72) C0 dX3_cut_59 (by decide) (fun _ => ?_) (fun _ => ?_)
      · refine s_aload C0 dX3_cut_72 (lv_at hl 1 rfl) ?_
        refine s_getN (v := .ref (ad 2 r1.1)) C0 hh (rl_1 hj2) rfl (T := TX2) (N := 14) rfl hinX2 (by decide) w199 rfl dX3_cut_74 ?_
        refine s_iload_n C0 dX3_cut_77 rfl (lv_at hl 4 rfl) ?_
        refine s_iload C0 dX3_cut_78 (lv_at hl 0 rfl) ?_
        refine s_iload_n C0 dX3_cut_80 rfl (lv_at hl 5 rfl) ?_
        refine s_aload C0 dX3_cut_81 (lv_at hl 1 rfl) ?_
        refine s_getN (v := .int (r5.2.1 1 r1.1 1)) C0 hh (rl_1 hj2) rfl (T := TX2) (N := 14) rfl hinX2 (by decide) w201 rfl dX3_cut_83 ?_
        refine s_V (As := [.int x2, .int r5.1, .int x3, .int (r5.2.1 1 r1.1 1)]) (rest := []) C0 hh (c_X1_fill C0.2.2.2.2.2.2 _ r1.1 x2 r5.1 x3 (r5.2.1 1 r1.1 1) (Or.inl hj2)) (qc24 C0.1.2.2.2.2 ⟨Nat.le_of_ble_eq_true rfl, Nat.le_of_ble_eq_true rfl⟩) (rl_2 (Or.inl hj2)) rfl rfl rfl hl.1 rfl (lv_room (Nat.le_of_ble_eq_true rfl)) dX3_cut_86 ⟨Nat.le_of_ble_eq_true rfl, Nat.le_of_ble_eq_true rfl⟩ (fun r6 H locs hor6 hh => ?_)
        refine s_aload C0 dX3_cut_89 (lv_at hl 1 rfl) ?_
        refine s_getN (v := .ref (ad 2 r1.1)) C0 hh (rl_1 hj2) rfl (T := TX2) (N := 14) rfl hinX2 (by decide) w199 rfl dX3_cut_91 ?_
        refine s_getN (v := .int (r6.2.1 2 r1.1 3)) C0 hh (rl_2 (Or.inl hj2)) rfl (T := TX1) (N := 8) rfl hinX1 (by decide) w160 rfl dX3_cut_94 ?_
        exact s_iretx C0 hh hR rfl (Nat.le_of_ble_eq_true rfl) (Nat.le_of_ble_eq_true rfl) dX3_cut_97
      · exact s_thr (text := "not soft, toothed or too thin") C0 hh ax164 w162 w163 (by decide) hl.1 dX3_cut_62 dX3_cut_65 dX3_cut_66 dX3_cut_68 dX3_cut_71 hout (Nat.le_of_ble_eq_true rfl) (Nat.le_of_ble_eq_true rfl) (Nat.le_of_ble_eq_true rfl) (Nat.le_of_ble_eq_true rfl) (Nat.le_of_ble_eq_true rfl) (Nat.le_of_ble_eq_true rfl)
def f_X3_cut (σ : Sg) (x1 : Int32) (x2 : Int32) (x3 : Int32) : Option ((Nat ⊕ Int32) × Sg) := f_X3_cut_0 σ x1 x2 x3
set_option maxRecDepth 100000 in
set_option maxHeartbeats 4000000 in
theorem c_X3_cut (hst : l.stackTraces = false) (σ : Sg) (x1 : Int32) (x2 : Int32) (x3 : Int32) : CtX l yX3_cut (wm yX3_cut cX3_cut 6 (some .int)) rmX3_cut 4 24 vI [.ref (ad 0 0), .int x1, .int x2, .int x3] D cy n0 ad nT nO  σ (f_X3_cut σ x1 x2 x3) := by
  intro r0 h0
  refine vx_ofW (cc := cX3_cut) (maxL := 6) (ret := (some .int)) (by decide +kernel) rfl ?_
  intro p e s m args below meth c s₁ B hml hout hv
  obtain ⟨C0, hh, hR, rfl⟩ := ent B hml hst hv
  rw [lg_entry_eq]
  have hl := lv_entry ([.ref (ad 0 0), .int x1, .int x2, .int x3]) (n := 6) (Nat.le_of_ble_eq_true rfl)
  generalize (lg_sl ([.ref (ad 0 0), .int x1, .int x2, .int x3]) ++ List.replicate (6 - (lg_sl ([.ref (ad 0 0), .int x1, .int x2, .int x3])).length) Slot.unset).toArray = ls at hl ⊢
  exact b_X3_cut_0 C0 hR hout σ x1 x2 x3 _ _ _ hh hl r0 h0
theorem qc25 {R : Room} {s : State} {args : Array Value} (ht : ∀ w ∈ allw, w.before args s = true) (hR : (rmX1_lowerAll).frames + 1 ≤ R.frames ∧ 8 + (2 + 11) + (rmX1_lowerAll).locals ≤ R.locals) : CallW R s args RX3 RX1 98 yX1_lowerAll cX1_lowerAll 2 none (wm yX1_lowerAll cX1_lowerAll 2 none) rmX1_lowerAll 0 0 0 := cwV 0 ht (gd_of (fun _ h => h) _ (mV w207 w209 w210 w15 w208)) rfl rfl rfl (by decide +kernel) hR
theorem qc26 {R : Room} {s : State} {args : Array Value} (ht : ∀ w ∈ allw, w.before args s = true) (hR : (rmX1_highest).frames + 1 ≤ R.frames ∧ 8 + (3 + 11) + (rmX1_highest).locals ≤ R.locals) : CallW R s args RX3 RX1 101 yX1_highest cX1_highest 3 (some .int) (wm yX1_highest cX1_highest 3 (some .int)) rmX1_highest 0 0 0 := cwV 0 ht (gd_of (fun _ h => h) _ (mV w211 w117 w118 w15 w116)) rfl rfl rfl (by decide +kernel) hR
def rmX3_upcut : Room := { frames := 7, cells := 2, slots := 12, locals := 111 }
def f_X3_upcut_0 (σ : Sg) (x1 : Int32) : Option ((Nat ⊕ Int32) × Sg) :=
  (bx (f_X3_needTool σ x1) (fun r1 => (if ((r1.2.1 1 r1.1 0) : Int32) = (115 : Int32) then (some (.inl 4, r1.2)) else (if ((r1.2.1 1 r1.1 4) : Int32) = (115 : Int32) then (if ((r1.2.1 2 r1.1 3) : Int32) = (0 : Int32) then (some (.inl 4, r1.2)) else (if ((r1.2.1 2 r1.1 4) : Int32) = (0 : Int32) then ((f_X1_lowerAll r1.2 r1.1).bind (fun r3 => ((f_X1_highest r3.2 r1.1).bind (fun r4 => (some (.inr r4.1, r4.2)))))) else (some (.inl 4, r1.2)))) else (some (.inl 4, r1.2))))) (fun x => some (.inl x.1, x.2)))
set_option maxRecDepth 100000 in
set_option maxHeartbeats 4000000 in
theorem b_X3_upcut_0 (C0 : Cx p l s m args meth c cX3_upcut 3 RX3 D cy n0) (hR : meth.sig.returnType = (some .int)) (hout : ∀ x ∈ c.exceptionTable.toList, False) (σ : Sg) (x1 : Int32) (H : Heap) (locs : List Loc) (ls : Array Slot) (hh : Hp D cy n0 ad nT nO s σ H locs) (hl : lv_has ls 3 [(0, .ref (ad 0 0)), (1, .int x1)]) : Sm (Qz below args s D cy n0 ad nT nO vI 2 12) (f_X3_upcut_0 σ x1) p l e rmX3_upcut s m args below meth c H locs 0 0 (F0 m 0 ls []) := by
  unfold f_X3_upcut_0
  refine s_aload_n C0 dX3_upcut_0 rfl (lv_at hl 0 rfl) ?_
  refine s_iload_n C0 dX3_upcut_1 rfl (lv_at hl 1 rfl) ?_
  refine s_Vx (As := [.int x1]) (rest := []) C0 hh (c_X3_needTool C0.2.2.2.2.2.2 _ x1) (qc22 C0.1.2.2.2.2 ⟨Nat.le_of_ble_eq_true rfl, Nat.le_of_ble_eq_true rfl⟩) (rl_b (by decide)) rfl rfl rfl hl.1 rfl (lv_room (Nat.le_of_ble_eq_true rfl)) dX3_upcut_2 ⟨Nat.le_of_ble_eq_true rfl, Nat.le_of_ble_eq_true rfl⟩ hout (Nat.le_of_ble_eq_true rfl) (Nat.le_of_ble_eq_true rfl) (fun r1 H locs hor1 hh => ?_)
  have hj2 := nT_lt hor1 hh.2.2.2
  refine s_astore_n (lv' := [(2, .ref (ad 1 r1.1)), (0, .ref (ad 0 0)), (1, .int x1)]) C0 dX3_upcut_5 rfl hl (by decide) rfl (fun ls hl => ?_)
  refine s_aload_n C0 dX3_upcut_6 rfl (lv_at hl 0 rfl) ?_
  refine s_getN (v := .int (r1.2.1 1 r1.1 0)) C0 hh (rl_1 hj2) rfl (T := TX2) (N := 14) rfl hinX2 (by decide) w195 rfl dX3_upcut_7 ?_
  refine s_bipush (v := 115) C0 dX3_upcut_10 (by decide) ?_
  refine s_icmp_eq (tgt := 44) C0 dX3_upcut_12 (by decide) (fun _ => ?_) (fun _ => ?_)
  · exact s_thr (text := "a saw, not soft, without teeth or upcut") C0 hh ax164 w162 w163 (by decide) hl.1 dX3_upcut_44 dX3_upcut_47 dX3_upcut_48 dX3_upcut_50 dX3_upcut_53 hout (Nat.le_of_ble_eq_true rfl) (Nat.le_of_ble_eq_true rfl) (Nat.le_of_ble_eq_true rfl) (Nat.le_of_ble_eq_true rfl) (Nat.le_of_ble_eq_true rfl) (Nat.le_of_ble_eq_true rfl)
  · refine s_aload_n C0 dX3_upcut_15 rfl (lv_at hl 0 rfl) ?_
    refine s_getN (v := .int (r1.2.1 1 r1.1 4)) C0 hh (rl_1 hj2) rfl (T := TX2) (N := 14) rfl hinX2 (by decide) w161 rfl dX3_upcut_16 ?_
    refine s_bipush (v := 115) C0 dX3_upcut_19 (by decide) ?_
    refine s_icmp_ne (tgt := 44) C0 dX3_upcut_21 (by decide) (fun _ => ?_) (fun _ => ?_)
    · exact s_thr (text := "a saw, not soft, without teeth or upcut") C0 hh ax164 w162 w163 (by decide) hl.1 dX3_upcut_44 dX3_upcut_47 dX3_upcut_48 dX3_upcut_50 dX3_upcut_53 hout (Nat.le_of_ble_eq_true rfl) (Nat.le_of_ble_eq_true rfl) (Nat.le_of_ble_eq_true rfl) (Nat.le_of_ble_eq_true rfl) (Nat.le_of_ble_eq_true rfl) (Nat.le_of_ble_eq_true rfl)
    · refine s_aload_n C0 dX3_upcut_24 rfl (lv_at hl 0 rfl) ?_
      refine s_getN (v := .ref (ad 2 r1.1)) C0 hh (rl_1 hj2) rfl (T := TX2) (N := 14) rfl hinX2 (by decide) w199 rfl dX3_upcut_25 ?_
      refine s_getN (v := .int (r1.2.1 2 r1.1 3)) C0 hh (rl_2 (Or.inl hj2)) rfl (T := TX1) (N := 8) rfl hinX1 (by decide) w160 rfl dX3_upcut_28 ?_
      refine s_if_eq (tgt := 44) C0 dX3_upcut_31 (by decide) (fun _ => ?_) (fun _ => ?_)
      · exact s_thr (text := "a saw, not soft, without teeth or upcut") C0 hh ax164 w162 w163 (by decide) hl.1 dX3_upcut_44 dX3_upcut_47 dX3_upcut_48 dX3_upcut_50 dX3_upcut_53 hout (Nat.le_of_ble_eq_true rfl) (Nat.le_of_ble_eq_true rfl) (Nat.le_of_ble_eq_true rfl) (Nat.le_of_ble_eq_true rfl) (Nat.le_of_ble_eq_true rfl) (Nat.le_of_ble_eq_true rfl)
      · refine s_aload_n C0 dX3_upcut_34 rfl (lv_at hl 0 rfl) ?_
        refine s_getN (v := .ref (ad 2 r1.1)) C0 hh (rl_1 hj2) rfl (T := TX2) (N := 14) rfl hinX2 (by decide) w199 rfl dX3_upcut_35 ?_
        refine s_getN (v := .int (r1.2.1 2 r1.1 4)) C0 hh (rl_2 (Or.inl hj2)) rfl (T := TX1) (N := 8) rfl hinX1 (by decide) w206 rfl dX3_upcut_38 ?_
        refine s_if_eq (tgt := 54) C0 dX3_upcut_41 (by decide) (fun _ => ?_) (fun _ => ?_)
        · refine s_aload_n C0 dX3_upcut_54 rfl (lv_at hl 0 rfl) ?_
          refine s_getN (v := .ref (ad 2 r1.1)) C0 hh (rl_1 hj2) rfl (T := TX2) (N := 14) rfl hinX2 (by decide) w199 rfl dX3_upcut_55 ?_
          refine s_V (As := []) (rest := []) C0 hh (c_X1_lowerAll C0.2.2.2.2.2.2 _ r1.1 (Or.inl hj2)) (qc25 C0.1.2.2.2.2 ⟨Nat.le_of_ble_eq_true rfl, Nat.le_of_ble_eq_true rfl⟩) (rl_2 (Or.inl hj2)) rfl rfl rfl hl.1 rfl (lv_room (Nat.le_of_ble_eq_true rfl)) dX3_upcut_58 ⟨Nat.le_of_ble_eq_true rfl, Nat.le_of_ble_eq_true rfl⟩ (fun r3 H locs hor3 hh => ?_)
          refine s_aload_n C0 dX3_upcut_61 rfl (lv_at hl 0 rfl) ?_
          refine s_getN (v := .ref (ad 2 r1.1)) C0 hh (rl_1 hj2) rfl (T := TX2) (N := 14) rfl hinX2 (by decide) w199 rfl dX3_upcut_62 ?_
          refine s_V (As := []) (rest := []) C0 hh (c_X1_highest C0.2.2.2.2.2.2 _ r1.1 (Or.inl hj2)) (qc26 C0.1.2.2.2.2 ⟨Nat.le_of_ble_eq_true rfl, Nat.le_of_ble_eq_true rfl⟩) (rl_2 (Or.inl hj2)) rfl rfl rfl hl.1 rfl (lv_room (Nat.le_of_ble_eq_true rfl)) dX3_upcut_65 ⟨Nat.le_of_ble_eq_true rfl, Nat.le_of_ble_eq_true rfl⟩ (fun r4 H locs hor4 hh => ?_)
          exact s_iretx C0 hh hR rfl (Nat.le_of_ble_eq_true rfl) (Nat.le_of_ble_eq_true rfl) dX3_upcut_68
        · exact s_thr (text := "a saw, not soft, without teeth or upcut") C0 hh ax164 w162 w163 (by decide) hl.1 dX3_upcut_44 dX3_upcut_47 dX3_upcut_48 dX3_upcut_50 dX3_upcut_53 hout (Nat.le_of_ble_eq_true rfl) (Nat.le_of_ble_eq_true rfl) (Nat.le_of_ble_eq_true rfl) (Nat.le_of_ble_eq_true rfl) (Nat.le_of_ble_eq_true rfl) (Nat.le_of_ble_eq_true rfl)
def f_X3_upcut (σ : Sg) (x1 : Int32) : Option ((Nat ⊕ Int32) × Sg) := f_X3_upcut_0 σ x1
set_option maxRecDepth 100000 in
set_option maxHeartbeats 4000000 in
theorem c_X3_upcut (hst : l.stackTraces = false) (σ : Sg) (x1 : Int32) : CtX l yX3_upcut (wm yX3_upcut cX3_upcut 3 (some .int)) rmX3_upcut 2 12 vI [.ref (ad 0 0), .int x1] D cy n0 ad nT nO  σ (f_X3_upcut σ x1) := by
  intro r0 h0
  refine vx_ofW (cc := cX3_upcut) (maxL := 3) (ret := (some .int)) (by decide +kernel) rfl ?_
  intro p e s m args below meth c s₁ B hml hout hv
  obtain ⟨C0, hh, hR, rfl⟩ := ent B hml hst hv
  rw [lg_entry_eq]
  have hl := lv_entry ([.ref (ad 0 0), .int x1]) (n := 3) (Nat.le_of_ble_eq_true rfl)
  generalize (lg_sl ([.ref (ad 0 0), .int x1]) ++ List.replicate (3 - (lg_sl ([.ref (ad 0 0), .int x1])).length) Slot.unset).toArray = ls at hl ⊢
  exact b_X3_upcut_0 C0 hR hout σ x1 _ _ _ hh hl r0 h0

def rmX3_teeth : Room := { frames := 7, cells := 1, slots := 6, locals := 111 }
def f_X3_teeth_0 (σ : Sg) (x1 : Int32) : Option ((Nat ⊕ Int32) × Sg) :=
  (bx (f_X3_needTool σ x1) (fun r1 => (some (.inr (r1.2.1 2 r1.1 3), r1.2))) (fun x => some (.inl x.1, x.2)))
set_option maxRecDepth 100000 in
set_option maxHeartbeats 4000000 in
theorem b_X3_teeth_0 (C0 : Cx p l s m args meth c cX3_teeth 2 RX3 D cy n0) (hR : meth.sig.returnType = (some .int)) (hout : ∀ x ∈ c.exceptionTable.toList, False) (σ : Sg) (x1 : Int32) (H : Heap) (locs : List Loc) (ls : Array Slot) (hh : Hp D cy n0 ad nT nO s σ H locs) (hl : lv_has ls 2 [(0, .ref (ad 0 0)), (1, .int x1)]) : Sm (Qz below args s D cy n0 ad nT nO vI 1 6) (f_X3_teeth_0 σ x1) p l e rmX3_teeth s m args below meth c H locs 0 0 (F0 m 0 ls []) := by
  unfold f_X3_teeth_0
  refine s_aload_n C0 dX3_teeth_0 rfl (lv_at hl 0 rfl) ?_
  refine s_iload_n C0 dX3_teeth_1 rfl (lv_at hl 1 rfl) ?_
  refine s_Vx (As := [.int x1]) (rest := []) C0 hh (c_X3_needTool C0.2.2.2.2.2.2 _ x1) (qc22 C0.1.2.2.2.2 ⟨Nat.le_of_ble_eq_true rfl, Nat.le_of_ble_eq_true rfl⟩) (rl_b (by decide)) rfl rfl rfl hl.1 rfl (lv_room (Nat.le_of_ble_eq_true rfl)) dX3_teeth_2 ⟨Nat.le_of_ble_eq_true rfl, Nat.le_of_ble_eq_true rfl⟩ hout (Nat.le_of_ble_eq_true rfl) (Nat.le_of_ble_eq_true rfl) (fun r1 H locs hor1 hh => ?_)
  have hj2 := nT_lt hor1 hh.2.2.2
  refine s_getN (v := .ref (ad 2 r1.1)) C0 hh (rl_1 hj2) rfl (T := TX2) (N := 14) rfl hinX2 (by decide) w199 rfl dX3_teeth_5 ?_
  refine s_getN (v := .int (r1.2.1 2 r1.1 3)) C0 hh (rl_2 (Or.inl hj2)) rfl (T := TX1) (N := 8) rfl hinX1 (by decide) w160 rfl dX3_teeth_8 ?_
  exact s_iretx C0 hh hR rfl (Nat.le_of_ble_eq_true rfl) (Nat.le_of_ble_eq_true rfl) dX3_teeth_11
def f_X3_teeth (σ : Sg) (x1 : Int32) : Option ((Nat ⊕ Int32) × Sg) := f_X3_teeth_0 σ x1
set_option maxRecDepth 100000 in
set_option maxHeartbeats 4000000 in
theorem c_X3_teeth (hst : l.stackTraces = false) (σ : Sg) (x1 : Int32) : CtX l yX3_teeth (wm yX3_teeth cX3_teeth 2 (some .int)) rmX3_teeth 1 6 vI [.ref (ad 0 0), .int x1] D cy n0 ad nT nO  σ (f_X3_teeth σ x1) := by
  intro r0 h0
  refine vx_ofW (cc := cX3_teeth) (maxL := 2) (ret := (some .int)) (by decide +kernel) rfl ?_
  intro p e s m args below meth c s₁ B hml hout hv
  obtain ⟨C0, hh, hR, rfl⟩ := ent B hml hst hv
  rw [lg_entry_eq]
  have hl := lv_entry ([.ref (ad 0 0), .int x1]) (n := 2) (Nat.le_of_ble_eq_true rfl)
  generalize (lg_sl ([.ref (ad 0 0), .int x1]) ++ List.replicate (2 - (lg_sl ([.ref (ad 0 0), .int x1])).length) Slot.unset).toArray = ls at hl ⊢
  exact b_X3_teeth_0 C0 hR hout σ x1 _ _ _ hh hl r0 h0
theorem qc27 {R : Room} {s : State} {args : Array Value} (ht : ∀ w ∈ allw, w.before args s = true) (hR : (rmX3_needTooth).frames + 1 ≤ R.frames ∧ 8 + (2 + 11) + (rmX3_needTooth).locals ≤ R.locals) : CallB R s args RX3 105 yX3_needTooth cX3_needTooth 2 none (wm yX3_needTooth cX3_needTooth 2 none) rmX3_needTooth 1 6 2 ∧ (Cond.static yX3_needTooth).before args s = true := cwS 2 ht (gd_of (fun _ h => h) _ (mS w212 w214 w64 w213)) rfl rfl rfl (by decide +kernel) hR
def rmX3_place : Room := { frames := 7, cells := 2, slots := 12, locals := 111 }
def f_X3_place_0 (σ : Sg) (x1 : Int32) (x2 : Int32) : Option ((Nat ⊕ Int32) × Sg) :=
  (bx (f_X3_needTool σ x1) (fun r1 => (bx (f_X3_needTooth r1.2 r1.1 x2) (fun r3 => (if (x2 : Int32) < 0 ∨ 60 ≤ (x2 : Int32).toNatClampNeg then none else (some (.inr (r3.2.1 3 r1.1 (x2 : Int32).toNatClampNeg), r3.2)))) (fun x => some (.inl x.1, x.2)))) (fun x => some (.inl x.1, x.2)))
set_option maxRecDepth 100000 in
set_option maxHeartbeats 4000000 in
theorem b_X3_place_0 (C0 : Cx p l s m args meth c cX3_place 4 RX3 D cy n0) (hR : meth.sig.returnType = (some .int)) (hout : ∀ x ∈ c.exceptionTable.toList, False) (σ : Sg) (x1 : Int32) (x2 : Int32) (H : Heap) (locs : List Loc) (ls : Array Slot) (hh : Hp D cy n0 ad nT nO s σ H locs) (hl : lv_has ls 4 [(0, .ref (ad 0 0)), (1, .int x1), (2, .int x2)]) : Sm (Qz below args s D cy n0 ad nT nO vI 2 12) (f_X3_place_0 σ x1 x2) p l e rmX3_place s m args below meth c H locs 0 0 (F0 m 0 ls []) := by
  unfold f_X3_place_0
  refine s_aload_n C0 dX3_place_0 rfl (lv_at hl 0 rfl) ?_
  refine s_iload_n C0 dX3_place_1 rfl (lv_at hl 1 rfl) ?_
  refine s_Vx (As := [.int x1]) (rest := []) C0 hh (c_X3_needTool C0.2.2.2.2.2.2 _ x1) (qc22 C0.1.2.2.2.2 ⟨Nat.le_of_ble_eq_true rfl, Nat.le_of_ble_eq_true rfl⟩) (rl_b (by decide)) rfl rfl rfl hl.1 rfl (lv_room (Nat.le_of_ble_eq_true rfl)) dX3_place_2 ⟨Nat.le_of_ble_eq_true rfl, Nat.le_of_ble_eq_true rfl⟩ hout (Nat.le_of_ble_eq_true rfl) (Nat.le_of_ble_eq_true rfl) (fun r1 H locs hor1 hh => ?_)
  have hj2 := nT_lt hor1 hh.2.2.2
  refine s_getN (v := .ref (ad 2 r1.1)) C0 hh (rl_1 hj2) rfl (T := TX2) (N := 14) rfl hinX2 (by decide) w199 rfl dX3_place_5 ?_
  refine s_astore_n (lv' := [(3, .ref (ad 2 r1.1)), (0, .ref (ad 0 0)), (1, .int x1), (2, .int x2)]) C0 dX3_place_8 rfl hl (by decide) rfl (fun ls hl => ?_)
  refine s_aload_n C0 dX3_place_9 rfl (lv_at hl 0 rfl) ?_
  refine s_iload_n C0 dX3_place_10 rfl (lv_at hl 3 rfl) ?_
  refine s_Sx (As := [.ref (ad 2 r1.1), .int x2]) (rest := []) C0 hh (c_X3_needTooth C0.2.2.2.2.2.2 _ r1.1 x2 (Or.inl hj2)) (qc27 C0.1.2.2.2.2 ⟨Nat.le_of_ble_eq_true rfl, Nat.le_of_ble_eq_true rfl⟩) rfl hl.1 rfl (lv_room (Nat.le_of_ble_eq_true rfl)) dX3_place_11 ⟨Nat.le_of_ble_eq_true rfl, Nat.le_of_ble_eq_true rfl⟩ hout (Nat.le_of_ble_eq_true rfl) (Nat.le_of_ble_eq_true rfl) (fun r3 H locs hor3 hh => ?_)
  refine s_aload_n C0 dX3_place_14 rfl (lv_at hl 0 rfl) ?_
  refine s_getN (v := .ref (ad 3 r1.1)) C0 hh (rl_2 (Or.inl hj2)) rfl (T := TX1) (N := 8) rfl hinX1 (by decide) w215 rfl dX3_place_15 ?_
  refine s_iload_n C0 dX3_place_18 rfl (lv_at hl 3 rfl) ?_
  refine s_iald (g := (r3.2.1 3 r1.1)) C0 hh rfl (rl_3 (Or.inl hj2)) (fun _ => rfl) (t0 := 1) rfl dX3_place_19 ?_
  exact s_iretx C0 hh hR rfl (Nat.le_of_ble_eq_true rfl) (Nat.le_of_ble_eq_true rfl) dX3_place_20
def f_X3_place (σ : Sg) (x1 : Int32) (x2 : Int32) : Option ((Nat ⊕ Int32) × Sg) := f_X3_place_0 σ x1 x2
set_option maxRecDepth 100000 in
set_option maxHeartbeats 4000000 in
theorem c_X3_place (hst : l.stackTraces = false) (σ : Sg) (x1 : Int32) (x2 : Int32) : CtX l yX3_place (wm yX3_place cX3_place 4 (some .int)) rmX3_place 2 12 vI [.ref (ad 0 0), .int x1, .int x2] D cy n0 ad nT nO  σ (f_X3_place σ x1 x2) := by
  intro r0 h0
  refine vx_ofW (cc := cX3_place) (maxL := 4) (ret := (some .int)) (by decide +kernel) rfl ?_
  intro p e s m args below meth c s₁ B hml hout hv
  obtain ⟨C0, hh, hR, rfl⟩ := ent B hml hst hv
  rw [lg_entry_eq]
  have hl := lv_entry ([.ref (ad 0 0), .int x1, .int x2]) (n := 4) (Nat.le_of_ble_eq_true rfl)
  generalize (lg_sl ([.ref (ad 0 0), .int x1, .int x2]) ++ List.replicate (4 - (lg_sl ([.ref (ad 0 0), .int x1, .int x2])).length) Slot.unset).toArray = ls at hl ⊢
  exact b_X3_place_0 C0 hR hout σ x1 x2 _ _ _ hh hl r0 h0

def rmX3_height : Room := { frames := 7, cells := 2, slots := 12, locals := 111 }
def f_X3_height_0 (σ : Sg) (x1 : Int32) (x2 : Int32) : Option ((Nat ⊕ Int32) × Sg) :=
  (bx (f_X3_needTool σ x1) (fun r1 => (bx (f_X3_needTooth r1.2 r1.1 x2) (fun r3 => (if (x2 : Int32) < 0 ∨ 60 ≤ (x2 : Int32).toNatClampNeg then none else (some (.inr (r3.2.1 4 r1.1 (x2 : Int32).toNatClampNeg), r3.2)))) (fun x => some (.inl x.1, x.2)))) (fun x => some (.inl x.1, x.2)))
set_option maxRecDepth 100000 in
set_option maxHeartbeats 4000000 in
theorem b_X3_height_0 (C0 : Cx p l s m args meth c cX3_height 4 RX3 D cy n0) (hR : meth.sig.returnType = (some .int)) (hout : ∀ x ∈ c.exceptionTable.toList, False) (σ : Sg) (x1 : Int32) (x2 : Int32) (H : Heap) (locs : List Loc) (ls : Array Slot) (hh : Hp D cy n0 ad nT nO s σ H locs) (hl : lv_has ls 4 [(0, .ref (ad 0 0)), (1, .int x1), (2, .int x2)]) : Sm (Qz below args s D cy n0 ad nT nO vI 2 12) (f_X3_height_0 σ x1 x2) p l e rmX3_height s m args below meth c H locs 0 0 (F0 m 0 ls []) := by
  unfold f_X3_height_0
  refine s_aload_n C0 dX3_height_0 rfl (lv_at hl 0 rfl) ?_
  refine s_iload_n C0 dX3_height_1 rfl (lv_at hl 1 rfl) ?_
  refine s_Vx (As := [.int x1]) (rest := []) C0 hh (c_X3_needTool C0.2.2.2.2.2.2 _ x1) (qc22 C0.1.2.2.2.2 ⟨Nat.le_of_ble_eq_true rfl, Nat.le_of_ble_eq_true rfl⟩) (rl_b (by decide)) rfl rfl rfl hl.1 rfl (lv_room (Nat.le_of_ble_eq_true rfl)) dX3_height_2 ⟨Nat.le_of_ble_eq_true rfl, Nat.le_of_ble_eq_true rfl⟩ hout (Nat.le_of_ble_eq_true rfl) (Nat.le_of_ble_eq_true rfl) (fun r1 H locs hor1 hh => ?_)
  have hj2 := nT_lt hor1 hh.2.2.2
  refine s_getN (v := .ref (ad 2 r1.1)) C0 hh (rl_1 hj2) rfl (T := TX2) (N := 14) rfl hinX2 (by decide) w199 rfl dX3_height_5 ?_
  refine s_astore_n (lv' := [(3, .ref (ad 2 r1.1)), (0, .ref (ad 0 0)), (1, .int x1), (2, .int x2)]) C0 dX3_height_8 rfl hl (by decide) rfl (fun ls hl => ?_)
  refine s_aload_n C0 dX3_height_9 rfl (lv_at hl 0 rfl) ?_
  refine s_iload_n C0 dX3_height_10 rfl (lv_at hl 3 rfl) ?_
  refine s_Sx (As := [.ref (ad 2 r1.1), .int x2]) (rest := []) C0 hh (c_X3_needTooth C0.2.2.2.2.2.2 _ r1.1 x2 (Or.inl hj2)) (qc27 C0.1.2.2.2.2 ⟨Nat.le_of_ble_eq_true rfl, Nat.le_of_ble_eq_true rfl⟩) rfl hl.1 rfl (lv_room (Nat.le_of_ble_eq_true rfl)) dX3_height_11 ⟨Nat.le_of_ble_eq_true rfl, Nat.le_of_ble_eq_true rfl⟩ hout (Nat.le_of_ble_eq_true rfl) (Nat.le_of_ble_eq_true rfl) (fun r3 H locs hor3 hh => ?_)
  refine s_aload_n C0 dX3_height_14 rfl (lv_at hl 0 rfl) ?_
  refine s_getN (v := .ref (ad 4 r1.1)) C0 hh (rl_2 (Or.inl hj2)) rfl (T := TX1) (N := 8) rfl hinX1 (by decide) w216 rfl dX3_height_15 ?_
  refine s_iload_n C0 dX3_height_18 rfl (lv_at hl 3 rfl) ?_
  refine s_iald (g := (r3.2.1 4 r1.1)) C0 hh rfl (rl_4 (Or.inl hj2)) (fun _ => rfl) (t0 := 1) rfl dX3_height_19 ?_
  exact s_iretx C0 hh hR rfl (Nat.le_of_ble_eq_true rfl) (Nat.le_of_ble_eq_true rfl) dX3_height_20
def f_X3_height (σ : Sg) (x1 : Int32) (x2 : Int32) : Option ((Nat ⊕ Int32) × Sg) := f_X3_height_0 σ x1 x2
set_option maxRecDepth 100000 in
set_option maxHeartbeats 4000000 in
theorem c_X3_height (hst : l.stackTraces = false) (σ : Sg) (x1 : Int32) (x2 : Int32) : CtX l yX3_height (wm yX3_height cX3_height 4 (some .int)) rmX3_height 2 12 vI [.ref (ad 0 0), .int x1, .int x2] D cy n0 ad nT nO  σ (f_X3_height σ x1 x2) := by
  intro r0 h0
  refine vx_ofW (cc := cX3_height) (maxL := 4) (ret := (some .int)) (by decide +kernel) rfl ?_
  intro p e s m args below meth c s₁ B hml hout hv
  obtain ⟨C0, hh, hR, rfl⟩ := ent B hml hst hv
  rw [lg_entry_eq]
  have hl := lv_entry ([.ref (ad 0 0), .int x1, .int x2]) (n := 4) (Nat.le_of_ble_eq_true rfl)
  generalize (lg_sl ([.ref (ad 0 0), .int x1, .int x2]) ++ List.replicate (4 - (lg_sl ([.ref (ad 0 0), .int x1, .int x2])).length) Slot.unset).toArray = ls at hl ⊢
  exact b_X3_height_0 C0 hR hout σ x1 x2 _ _ _ hh hl r0 h0

def rmX3_wear : Room := { frames := 7, cells := 2, slots := 12, locals := 111 }
def f_X3_wear_0 (σ : Sg) (x1 : Int32) (x2 : Int32) : Option ((Nat ⊕ Int32) × Sg) :=
  (bx (f_X3_needTool σ x1) (fun r1 => (bx (f_X3_needTooth r1.2 r1.1 x2) (fun r3 => (if (x2 : Int32) < 0 ∨ 60 ≤ (x2 : Int32).toNatClampNeg then none else (some (.inr (r3.2.1 5 r1.1 (x2 : Int32).toNatClampNeg), r3.2)))) (fun x => some (.inl x.1, x.2)))) (fun x => some (.inl x.1, x.2)))
set_option maxRecDepth 100000 in
set_option maxHeartbeats 4000000 in
theorem b_X3_wear_0 (C0 : Cx p l s m args meth c cX3_wear 4 RX3 D cy n0) (hR : meth.sig.returnType = (some .int)) (hout : ∀ x ∈ c.exceptionTable.toList, False) (σ : Sg) (x1 : Int32) (x2 : Int32) (H : Heap) (locs : List Loc) (ls : Array Slot) (hh : Hp D cy n0 ad nT nO s σ H locs) (hl : lv_has ls 4 [(0, .ref (ad 0 0)), (1, .int x1), (2, .int x2)]) : Sm (Qz below args s D cy n0 ad nT nO vI 2 12) (f_X3_wear_0 σ x1 x2) p l e rmX3_wear s m args below meth c H locs 0 0 (F0 m 0 ls []) := by
  unfold f_X3_wear_0
  refine s_aload_n C0 dX3_wear_0 rfl (lv_at hl 0 rfl) ?_
  refine s_iload_n C0 dX3_wear_1 rfl (lv_at hl 1 rfl) ?_
  refine s_Vx (As := [.int x1]) (rest := []) C0 hh (c_X3_needTool C0.2.2.2.2.2.2 _ x1) (qc22 C0.1.2.2.2.2 ⟨Nat.le_of_ble_eq_true rfl, Nat.le_of_ble_eq_true rfl⟩) (rl_b (by decide)) rfl rfl rfl hl.1 rfl (lv_room (Nat.le_of_ble_eq_true rfl)) dX3_wear_2 ⟨Nat.le_of_ble_eq_true rfl, Nat.le_of_ble_eq_true rfl⟩ hout (Nat.le_of_ble_eq_true rfl) (Nat.le_of_ble_eq_true rfl) (fun r1 H locs hor1 hh => ?_)
  have hj2 := nT_lt hor1 hh.2.2.2
  refine s_getN (v := .ref (ad 2 r1.1)) C0 hh (rl_1 hj2) rfl (T := TX2) (N := 14) rfl hinX2 (by decide) w199 rfl dX3_wear_5 ?_
  refine s_astore_n (lv' := [(3, .ref (ad 2 r1.1)), (0, .ref (ad 0 0)), (1, .int x1), (2, .int x2)]) C0 dX3_wear_8 rfl hl (by decide) rfl (fun ls hl => ?_)
  refine s_aload_n C0 dX3_wear_9 rfl (lv_at hl 0 rfl) ?_
  refine s_iload_n C0 dX3_wear_10 rfl (lv_at hl 3 rfl) ?_
  refine s_Sx (As := [.ref (ad 2 r1.1), .int x2]) (rest := []) C0 hh (c_X3_needTooth C0.2.2.2.2.2.2 _ r1.1 x2 (Or.inl hj2)) (qc27 C0.1.2.2.2.2 ⟨Nat.le_of_ble_eq_true rfl, Nat.le_of_ble_eq_true rfl⟩) rfl hl.1 rfl (lv_room (Nat.le_of_ble_eq_true rfl)) dX3_wear_11 ⟨Nat.le_of_ble_eq_true rfl, Nat.le_of_ble_eq_true rfl⟩ hout (Nat.le_of_ble_eq_true rfl) (Nat.le_of_ble_eq_true rfl) (fun r3 H locs hor3 hh => ?_)
  refine s_aload_n C0 dX3_wear_14 rfl (lv_at hl 0 rfl) ?_
  refine s_getN (v := .ref (ad 5 r1.1)) C0 hh (rl_2 (Or.inl hj2)) rfl (T := TX1) (N := 8) rfl hinX1 (by decide) w217 rfl dX3_wear_15 ?_
  refine s_iload_n C0 dX3_wear_18 rfl (lv_at hl 3 rfl) ?_
  refine s_iald (g := (r3.2.1 5 r1.1)) C0 hh rfl (rl_5 (Or.inl hj2)) (fun _ => rfl) (t0 := 1) rfl dX3_wear_19 ?_
  exact s_iretx C0 hh hR rfl (Nat.le_of_ble_eq_true rfl) (Nat.le_of_ble_eq_true rfl) dX3_wear_20
def f_X3_wear (σ : Sg) (x1 : Int32) (x2 : Int32) : Option ((Nat ⊕ Int32) × Sg) := f_X3_wear_0 σ x1 x2
set_option maxRecDepth 100000 in
set_option maxHeartbeats 4000000 in
theorem c_X3_wear (hst : l.stackTraces = false) (σ : Sg) (x1 : Int32) (x2 : Int32) : CtX l yX3_wear (wm yX3_wear cX3_wear 4 (some .int)) rmX3_wear 2 12 vI [.ref (ad 0 0), .int x1, .int x2] D cy n0 ad nT nO  σ (f_X3_wear σ x1 x2) := by
  intro r0 h0
  refine vx_ofW (cc := cX3_wear) (maxL := 4) (ret := (some .int)) (by decide +kernel) rfl ?_
  intro p e s m args below meth c s₁ B hml hout hv
  obtain ⟨C0, hh, hR, rfl⟩ := ent B hml hst hv
  rw [lg_entry_eq]
  have hl := lv_entry ([.ref (ad 0 0), .int x1, .int x2]) (n := 4) (Nat.le_of_ble_eq_true rfl)
  generalize (lg_sl ([.ref (ad 0 0), .int x1, .int x2]) ++ List.replicate (4 - (lg_sl ([.ref (ad 0 0), .int x1, .int x2])).length) Slot.unset).toArray = ls at hl ⊢
  exact b_X3_wear_0 C0 hR hout σ x1 x2 _ _ _ hh hl r0 h0
theorem qc28 {R : Room} {s : State} {args : Array Value} (ht : ∀ w ∈ allw, w.before args s = true) (hR : (rmX1_isEven).frames + 1 ≤ R.frames ∧ 8 + (2 + 11) + (rmX1_isEven).locals ≤ R.locals) : CallW R s args RX3 RX1 119 yX1_isEven cX1_isEven 2 (some .boolean) (wm yX1_isEven cX1_isEven 2 (some .boolean)) rmX1_isEven 0 0 0 := cwV 0 ht (gd_of (fun _ h => h) _ (mV w218 w148 w149 w15 w147)) rfl rfl rfl (by decide +kernel) hR
def rmX3_sings : Room := { frames := 7, cells := 1, slots := 6, locals := 111 }
def f_X3_sings_0 (σ : Sg) (x1 : Int32) : Option ((Nat ⊕ Int32) × Sg) :=
  (bx (f_X3_needTool σ x1) (fun r1 => ((f_X1_isEven r1.2 r1.1).bind (fun r3 => (if r3.1 = 0 ∨ r3.1 = 1 then (some (.inr r3.1, r3.2)) else none)))) (fun x => some (.inl x.1, x.2)))
set_option maxRecDepth 100000 in
set_option maxHeartbeats 4000000 in
theorem b_X3_sings_0 (C0 : Cx p l s m args meth c cX3_sings 2 RX3 D cy n0) (hR : meth.sig.returnType = (some .boolean)) (hout : ∀ x ∈ c.exceptionTable.toList, False) (σ : Sg) (x1 : Int32) (H : Heap) (locs : List Loc) (ls : Array Slot) (hh : Hp D cy n0 ad nT nO s σ H locs) (hl : lv_has ls 2 [(0, .ref (ad 0 0)), (1, .int x1)]) : Sm (Qz below args s D cy n0 ad nT nO vI 1 6) (f_X3_sings_0 σ x1) p l e rmX3_sings s m args below meth c H locs 0 0 (F0 m 0 ls []) := by
  unfold f_X3_sings_0
  refine s_aload_n C0 dX3_sings_0 rfl (lv_at hl 0 rfl) ?_
  refine s_iload_n C0 dX3_sings_1 rfl (lv_at hl 1 rfl) ?_
  refine s_Vx (As := [.int x1]) (rest := []) C0 hh (c_X3_needTool C0.2.2.2.2.2.2 _ x1) (qc22 C0.1.2.2.2.2 ⟨Nat.le_of_ble_eq_true rfl, Nat.le_of_ble_eq_true rfl⟩) (rl_b (by decide)) rfl rfl rfl hl.1 rfl (lv_room (Nat.le_of_ble_eq_true rfl)) dX3_sings_2 ⟨Nat.le_of_ble_eq_true rfl, Nat.le_of_ble_eq_true rfl⟩ hout (Nat.le_of_ble_eq_true rfl) (Nat.le_of_ble_eq_true rfl) (fun r1 H locs hor1 hh => ?_)
  have hj2 := nT_lt hor1 hh.2.2.2
  refine s_getN (v := .ref (ad 2 r1.1)) C0 hh (rl_1 hj2) rfl (T := TX2) (N := 14) rfl hinX2 (by decide) w199 rfl dX3_sings_5 ?_
  refine s_V (As := []) (rest := []) C0 hh (c_X1_isEven C0.2.2.2.2.2.2 _ r1.1 (Or.inl hj2)) (qc28 C0.1.2.2.2.2 ⟨Nat.le_of_ble_eq_true rfl, Nat.le_of_ble_eq_true rfl⟩) (rl_2 (Or.inl hj2)) rfl rfl rfl hl.1 rfl (lv_room (Nat.le_of_ble_eq_true rfl)) dX3_sings_8 ⟨Nat.le_of_ble_eq_true rfl, Nat.le_of_ble_eq_true rfl⟩ (fun r3 H locs hor3 hh => ?_)
  refine s_gd (fun hg4 => ?_)
  exact s_iretx C0 hh hR (nz_of hg4) (Nat.le_of_ble_eq_true rfl) (Nat.le_of_ble_eq_true rfl) dX3_sings_11
def f_X3_sings (σ : Sg) (x1 : Int32) : Option ((Nat ⊕ Int32) × Sg) := f_X3_sings_0 σ x1
set_option maxRecDepth 100000 in
set_option maxHeartbeats 4000000 in
theorem c_X3_sings (hst : l.stackTraces = false) (σ : Sg) (x1 : Int32) : CtX l yX3_sings (wm yX3_sings cX3_sings 2 (some .boolean)) rmX3_sings 1 6 vI [.ref (ad 0 0), .int x1] D cy n0 ad nT nO  σ (f_X3_sings σ x1) := by
  intro r0 h0
  refine vx_ofW (cc := cX3_sings) (maxL := 2) (ret := (some .boolean)) (by decide +kernel) rfl ?_
  intro p e s m args below meth c s₁ B hml hout hv
  obtain ⟨C0, hh, hR, rfl⟩ := ent B hml hst hv
  rw [lg_entry_eq]
  have hl := lv_entry ([.ref (ad 0 0), .int x1]) (n := 2) (Nat.le_of_ble_eq_true rfl)
  generalize (lg_sl ([.ref (ad 0 0), .int x1]) ++ List.replicate (2 - (lg_sl ([.ref (ad 0 0), .int x1])).length) Slot.unset).toArray = ls at hl ⊢
  exact b_X3_sings_0 C0 hR hout σ x1 _ _ _ hh hl r0 h0
theorem qc29 {R : Room} {s : State} {args : Array Value} (ht : ∀ w ∈ allw, w.before args s = true) (hR : (rmX2_cool).frames + 1 ≤ R.frames ∧ 8 + (1 + 11) + (rmX2_cool).locals ≤ R.locals) : CallW R s args RX3 RX2 128 yX2_cool cX2_cool 1 none (wm yX2_cool cX2_cool 1 none) rmX2_cool 0 0 0 := cwV 0 ht (gd_of (fun _ h => h) _ (mV w220 w127 w128 w102 w126)) rfl rfl rfl (by decide +kernel) hR
def rmX3_set : Room := { frames := 7, cells := 3, slots := 18, locals := 112 }
def f_X3_set_0 (σ : Sg) (x1 : Int32) (x2 : Int32) : Option ((Nat ⊕ Int32) × Sg) :=
  (bx (f_X3_needTool σ x1) (fun r1 => (bx (f_X3_needWithin r1.2 x2 0 9) (fun r3 => (if ((r3.2.1 1 r1.1 0) : Int32) = (115 : Int32) then (if ((r3.2.1 2 r1.1 3) : Int32) = (0 : Int32) then (some (.inl 4, r3.2)) else (if ((r3.2.1 1 r1.1 4) : Int32) = (99 : Int32) then (some (.inl 4, r3.2)) else ((f_X2_cool (sv r3.2 1 r1.1 6 x2) r1.1).bind (fun r4 => (some (.inr (r3.2.1 1 r1.1 6), r4.2)))))) else (some (.inl 4, r3.2)))) (fun x => some (.inl x.1, x.2)))) (fun x => some (.inl x.1, x.2)))
set_option maxRecDepth 100000 in
set_option maxHeartbeats 4000000 in
theorem b_X3_set_0 (C0 : Cx p l s m args meth c cX3_set 5 RX3 D cy n0) (hR : meth.sig.returnType = (some .int)) (hout : ∀ x ∈ c.exceptionTable.toList, False) (σ : Sg) (x1 : Int32) (x2 : Int32) (H : Heap) (locs : List Loc) (ls : Array Slot) (hh : Hp D cy n0 ad nT nO s σ H locs) (hl : lv_has ls 5 [(0, .ref (ad 0 0)), (1, .int x1), (2, .int x2)]) : Sm (Qz below args s D cy n0 ad nT nO vI 3 18) (f_X3_set_0 σ x1 x2) p l e rmX3_set s m args below meth c H locs 0 0 (F0 m 0 ls []) := by
  unfold f_X3_set_0
  refine s_aload_n C0 dX3_set_0 rfl (lv_at hl 0 rfl) ?_
  refine s_iload_n C0 dX3_set_1 rfl (lv_at hl 1 rfl) ?_
  refine s_Vx (As := [.int x1]) (rest := []) C0 hh (c_X3_needTool C0.2.2.2.2.2.2 _ x1) (qc22 C0.1.2.2.2.2 ⟨Nat.le_of_ble_eq_true rfl, Nat.le_of_ble_eq_true rfl⟩) (rl_b (by decide)) rfl rfl rfl hl.1 rfl (lv_room (Nat.le_of_ble_eq_true rfl)) dX3_set_2 ⟨Nat.le_of_ble_eq_true rfl, Nat.le_of_ble_eq_true rfl⟩ hout (Nat.le_of_ble_eq_true rfl) (Nat.le_of_ble_eq_true rfl) (fun r1 H locs hor1 hh => ?_)
  have hj2 := nT_lt hor1 hh.2.2.2
  refine s_astore_n (lv' := [(3, .ref (ad 1 r1.1)), (0, .ref (ad 0 0)), (1, .int x1), (2, .int x2)]) C0 dX3_set_5 rfl hl (by decide) rfl (fun ls hl => ?_)
  refine s_iload_n C0 dX3_set_6 rfl (lv_at hl 3 rfl) ?_
  refine s_iconst (v := 0) C0 dX3_set_7 (by decide) ?_
  refine s_bipush (v := 9) C0 dX3_set_8 (by decide) ?_
  refine s_Sx (As := [.int x2, .int 0, .int 9]) (rest := []) C0 hh (c_X3_needWithin C0.2.2.2.2.2.2 _ x2 0 9) (qc20 C0.1.2.2.2.2 ⟨Nat.le_of_ble_eq_true rfl, Nat.le_of_ble_eq_true rfl⟩) rfl hl.1 rfl (lv_room (Nat.le_of_ble_eq_true rfl)) dX3_set_10 ⟨Nat.le_of_ble_eq_true rfl, Nat.le_of_ble_eq_true rfl⟩ hout (Nat.le_of_ble_eq_true rfl) (Nat.le_of_ble_eq_true rfl) (fun r3 H locs hor3 hh => ?_)
  refine s_aload_n C0 dX3_set_13 rfl (lv_at hl 0 rfl) ?_
  refine s_getN (v := .int (r3.2.1 1 r1.1 0)) C0 hh (rl_1 hj2) rfl (T := TX2) (N := 14) rfl hinX2 (by decide) w195 rfl dX3_set_14 ?_
  refine s_bipush (v := 115) C0 dX3_set_17 (by decide) ?_
  refine s_icmp_ne (tgt := 41) C0 dX3_set_19 (by decide) (fun _ => ?_) (fun _ => ?_)
  · exact s_thr (text := "no saw, without teeth or cracked") C0 hh ax164 w162 w163 (by decide) hl.1 dX3_set_41 dX3_set_44 dX3_set_45 dX3_set_47 dX3_set_50 hout (Nat.le_of_ble_eq_true rfl) (Nat.le_of_ble_eq_true rfl) (Nat.le_of_ble_eq_true rfl) (Nat.le_of_ble_eq_true rfl) (Nat.le_of_ble_eq_true rfl) (Nat.le_of_ble_eq_true rfl)
  · refine s_aload_n C0 dX3_set_22 rfl (lv_at hl 0 rfl) ?_
    refine s_getN (v := .ref (ad 2 r1.1)) C0 hh (rl_1 hj2) rfl (T := TX2) (N := 14) rfl hinX2 (by decide) w199 rfl dX3_set_23 ?_
    refine s_getN (v := .int (r3.2.1 2 r1.1 3)) C0 hh (rl_2 (Or.inl hj2)) rfl (T := TX1) (N := 8) rfl hinX1 (by decide) w160 rfl dX3_set_26 ?_
    refine s_if_eq (tgt := 41) C0 dX3_set_29 (by decide) (fun _ => ?_) (fun _ => ?_)
    · exact s_thr (text := "no saw, without teeth or cracked") C0 hh ax164 w162 w163 (by decide) hl.1 dX3_set_41 dX3_set_44 dX3_set_45 dX3_set_47 dX3_set_50 hout (Nat.le_of_ble_eq_true rfl) (Nat.le_of_ble_eq_true rfl) (Nat.le_of_ble_eq_true rfl) (Nat.le_of_ble_eq_true rfl) (Nat.le_of_ble_eq_true rfl) (Nat.le_of_ble_eq_true rfl)
    · refine s_aload_n C0 dX3_set_32 rfl (lv_at hl 0 rfl) ?_
      refine s_getN (v := .int (r3.2.1 1 r1.1 4)) C0 hh (rl_1 hj2) rfl (T := TX2) (N := 14) rfl hinX2 (by decide) w161 rfl dX3_set_33 ?_
      refine s_bipush (v := 99) C0 dX3_set_36 (by decide) ?_
      refine s_icmp_ne (tgt := 51) C0 dX3_set_38 (by decide) (fun _ => ?_) (fun _ => ?_)
      · refine s_aload_n C0 dX3_set_51 rfl (lv_at hl 0 rfl) ?_
        refine s_getN (v := .int (r3.2.1 1 r1.1 6)) C0 hh (rl_1 hj2) rfl (T := TX2) (N := 14) rfl hinX2 (by decide) w219 rfl dX3_set_52 ?_
        refine s_istore (lv' := [(4, .int (r3.2.1 1 r1.1 6)), (3, .ref (ad 1 r1.1)), (0, .ref (ad 0 0)), (1, .int x1), (2, .int x2)]) C0 dX3_set_55 hl (by decide) rfl (fun ls hl => ?_)
        refine s_aload_n C0 dX3_set_57 rfl (lv_at hl 1 rfl) ?_
        refine s_iload_n C0 dX3_set_58 rfl (lv_at hl 4 rfl) ?_
        refine s_putN C0 hh (rl_1 hj2) rfl rfl (T := TX2) (N := 14) rfl hinX2 tyX2 tyX2_ok nmX2 (by decide) w219 rfl (ty := .int) (by decide +kernel) rfl rfl (Nat.le_of_ble_eq_true rfl) (by decide) (by decide) (by decide) dX3_set_59 (fun H locs hh => ?_)
        refine s_aload_n C0 dX3_set_62 rfl (lv_at hl 1 rfl) ?_
        refine s_V (As := []) (rest := []) C0 hh (c_X2_cool C0.2.2.2.2.2.2 _ r1.1 hj2) (qc29 C0.1.2.2.2.2 ⟨Nat.le_of_ble_eq_true rfl, Nat.le_of_ble_eq_true rfl⟩) (rl_1 hj2) rfl rfl rfl hl.1 rfl (lv_room (Nat.le_of_ble_eq_true rfl)) dX3_set_63 ⟨Nat.le_of_ble_eq_true rfl, Nat.le_of_ble_eq_true rfl⟩ (fun r4 H locs hor4 hh => ?_)
        refine s_iload C0 dX3_set_66 (lv_at hl 0 rfl) ?_
        exact s_iretx C0 hh hR rfl (Nat.le_of_ble_eq_true rfl) (Nat.le_of_ble_eq_true rfl) dX3_set_68
      · exact s_thr (text := "no saw, without teeth or cracked") C0 hh ax164 w162 w163 (by decide) hl.1 dX3_set_41 dX3_set_44 dX3_set_45 dX3_set_47 dX3_set_50 hout (Nat.le_of_ble_eq_true rfl) (Nat.le_of_ble_eq_true rfl) (Nat.le_of_ble_eq_true rfl) (Nat.le_of_ble_eq_true rfl) (Nat.le_of_ble_eq_true rfl) (Nat.le_of_ble_eq_true rfl)
def f_X3_set (σ : Sg) (x1 : Int32) (x2 : Int32) : Option ((Nat ⊕ Int32) × Sg) := f_X3_set_0 σ x1 x2
set_option maxRecDepth 100000 in
set_option maxHeartbeats 4000000 in
theorem c_X3_set (hst : l.stackTraces = false) (σ : Sg) (x1 : Int32) (x2 : Int32) : CtX l yX3_set (wm yX3_set cX3_set 5 (some .int)) rmX3_set 3 18 vI [.ref (ad 0 0), .int x1, .int x2] D cy n0 ad nT nO  σ (f_X3_set σ x1 x2) := by
  intro r0 h0
  refine vx_ofW (cc := cX3_set) (maxL := 5) (ret := (some .int)) (by decide +kernel) rfl ?_
  intro p e s m args below meth c s₁ B hml hout hv
  obtain ⟨C0, hh, hR, rfl⟩ := ent B hml hst hv
  rw [lg_entry_eq]
  have hl := lv_entry ([.ref (ad 0 0), .int x1, .int x2]) (n := 5) (Nat.le_of_ble_eq_true rfl)
  generalize (lg_sl ([.ref (ad 0 0), .int x1, .int x2]) ++ List.replicate (5 - (lg_sl ([.ref (ad 0 0), .int x1, .int x2])).length) Slot.unset).toArray = ls at hl ⊢
  exact b_X3_set_0 C0 hR hout σ x1 x2 _ _ _ hh hl r0 h0

def rmX3_kerf : Room := { frames := 7, cells := 1, slots := 6, locals := 111 }
def f_X3_kerf_0 (σ : Sg) (x1 : Int32) : Option ((Nat ⊕ Int32) × Sg) :=
  (bx (f_X3_needTool σ x1) (fun r1 => (some (.inr ((r1.2.1 1 r1.1 3) + (2 * (r1.2.1 1 r1.1 6))), r1.2))) (fun x => some (.inl x.1, x.2)))
set_option maxRecDepth 100000 in
set_option maxHeartbeats 4000000 in
theorem b_X3_kerf_0 (C0 : Cx p l s m args meth c cX3_kerf 3 RX3 D cy n0) (hR : meth.sig.returnType = (some .int)) (hout : ∀ x ∈ c.exceptionTable.toList, False) (σ : Sg) (x1 : Int32) (H : Heap) (locs : List Loc) (ls : Array Slot) (hh : Hp D cy n0 ad nT nO s σ H locs) (hl : lv_has ls 3 [(0, .ref (ad 0 0)), (1, .int x1)]) : Sm (Qz below args s D cy n0 ad nT nO vI 1 6) (f_X3_kerf_0 σ x1) p l e rmX3_kerf s m args below meth c H locs 0 0 (F0 m 0 ls []) := by
  unfold f_X3_kerf_0
  refine s_aload_n C0 dX3_kerf_0 rfl (lv_at hl 0 rfl) ?_
  refine s_iload_n C0 dX3_kerf_1 rfl (lv_at hl 1 rfl) ?_
  refine s_Vx (As := [.int x1]) (rest := []) C0 hh (c_X3_needTool C0.2.2.2.2.2.2 _ x1) (qc22 C0.1.2.2.2.2 ⟨Nat.le_of_ble_eq_true rfl, Nat.le_of_ble_eq_true rfl⟩) (rl_b (by decide)) rfl rfl rfl hl.1 rfl (lv_room (Nat.le_of_ble_eq_true rfl)) dX3_kerf_2 ⟨Nat.le_of_ble_eq_true rfl, Nat.le_of_ble_eq_true rfl⟩ hout (Nat.le_of_ble_eq_true rfl) (Nat.le_of_ble_eq_true rfl) (fun r1 H locs hor1 hh => ?_)
  have hj2 := nT_lt hor1 hh.2.2.2
  refine s_astore_n (lv' := [(2, .ref (ad 1 r1.1)), (0, .ref (ad 0 0)), (1, .int x1)]) C0 dX3_kerf_5 rfl hl (by decide) rfl (fun ls hl => ?_)
  refine s_aload_n C0 dX3_kerf_6 rfl (lv_at hl 0 rfl) ?_
  refine s_getN (v := .int (r1.2.1 1 r1.1 3)) C0 hh (rl_1 hj2) rfl (T := TX2) (N := 14) rfl hinX2 (by decide) w200 rfl dX3_kerf_7 ?_
  refine s_iconst (v := 2) C0 dX3_kerf_10 (by decide) ?_
  refine s_aload_n C0 dX3_kerf_11 rfl (lv_at hl 0 rfl) ?_
  refine s_getN (v := .int (r1.2.1 1 r1.1 6)) C0 hh (rl_1 hj2) rfl (T := TX2) (N := 14) rfl hinX2 (by decide) w219 rfl dX3_kerf_12 ?_
  refine s_imul C0 dX3_kerf_15 ?_
  refine s_iadd C0 dX3_kerf_16 ?_
  exact s_iretx C0 hh hR rfl (Nat.le_of_ble_eq_true rfl) (Nat.le_of_ble_eq_true rfl) dX3_kerf_17
def f_X3_kerf (σ : Sg) (x1 : Int32) : Option ((Nat ⊕ Int32) × Sg) := f_X3_kerf_0 σ x1
set_option maxRecDepth 100000 in
set_option maxHeartbeats 4000000 in
theorem c_X3_kerf (hst : l.stackTraces = false) (σ : Sg) (x1 : Int32) : CtX l yX3_kerf (wm yX3_kerf cX3_kerf 3 (some .int)) rmX3_kerf 1 6 vI [.ref (ad 0 0), .int x1] D cy n0 ad nT nO  σ (f_X3_kerf σ x1) := by
  intro r0 h0
  refine vx_ofW (cc := cX3_kerf) (maxL := 3) (ret := (some .int)) (by decide +kernel) rfl ?_
  intro p e s m args below meth c s₁ B hml hout hv
  obtain ⟨C0, hh, hR, rfl⟩ := ent B hml hst hv
  rw [lg_entry_eq]
  have hl := lv_entry ([.ref (ad 0 0), .int x1]) (n := 3) (Nat.le_of_ble_eq_true rfl)
  generalize (lg_sl ([.ref (ad 0 0), .int x1]) ++ List.replicate (3 - (lg_sl ([.ref (ad 0 0), .int x1])).length) Slot.unset).toArray = ls at hl ⊢
  exact b_X3_kerf_0 C0 hR hout σ x1 _ _ _ hh hl r0 h0
theorem qc30 {R : Room} {s : State} {args : Array Value} (ht : ∀ w ∈ allw, w.before args s = true) (hR : (rmX2_holds).frames + 1 ≤ R.frames ∧ 8 + (1 + 11) + (rmX2_holds).locals ≤ R.locals) : CallW R s args RX3 RX2 131 yX2_holds cX2_holds 1 (some .int) (wm yX2_holds cX2_holds 1 (some .int)) rmX2_holds 0 0 0 := cwV 0 ht (gd_of (fun _ h => h) _ (mV w221 w132 w133 w102 w131)) rfl rfl rfl (by decide +kernel) hR
def rmX3_gullets : Room := { frames := 7, cells := 1, slots := 6, locals := 111 }
def f_X3_gullets_0 (σ : Sg) (x1 : Int32) : Option ((Nat ⊕ Int32) × Sg) :=
  (bx (f_X3_needTool σ x1) (fun r1 => ((f_X2_holds r1.2 r1.1).bind (fun r3 => (some (.inr r3.1, r3.2))))) (fun x => some (.inl x.1, x.2)))
set_option maxRecDepth 100000 in
set_option maxHeartbeats 4000000 in
theorem b_X3_gullets_0 (C0 : Cx p l s m args meth c cX3_gullets 2 RX3 D cy n0) (hR : meth.sig.returnType = (some .int)) (hout : ∀ x ∈ c.exceptionTable.toList, False) (σ : Sg) (x1 : Int32) (H : Heap) (locs : List Loc) (ls : Array Slot) (hh : Hp D cy n0 ad nT nO s σ H locs) (hl : lv_has ls 2 [(0, .ref (ad 0 0)), (1, .int x1)]) : Sm (Qz below args s D cy n0 ad nT nO vI 1 6) (f_X3_gullets_0 σ x1) p l e rmX3_gullets s m args below meth c H locs 0 0 (F0 m 0 ls []) := by
  unfold f_X3_gullets_0
  refine s_aload_n C0 dX3_gullets_0 rfl (lv_at hl 0 rfl) ?_
  refine s_iload_n C0 dX3_gullets_1 rfl (lv_at hl 1 rfl) ?_
  refine s_Vx (As := [.int x1]) (rest := []) C0 hh (c_X3_needTool C0.2.2.2.2.2.2 _ x1) (qc22 C0.1.2.2.2.2 ⟨Nat.le_of_ble_eq_true rfl, Nat.le_of_ble_eq_true rfl⟩) (rl_b (by decide)) rfl rfl rfl hl.1 rfl (lv_room (Nat.le_of_ble_eq_true rfl)) dX3_gullets_2 ⟨Nat.le_of_ble_eq_true rfl, Nat.le_of_ble_eq_true rfl⟩ hout (Nat.le_of_ble_eq_true rfl) (Nat.le_of_ble_eq_true rfl) (fun r1 H locs hor1 hh => ?_)
  have hj2 := nT_lt hor1 hh.2.2.2
  refine s_V (As := []) (rest := []) C0 hh (c_X2_holds C0.2.2.2.2.2.2 _ r1.1 hj2) (qc30 C0.1.2.2.2.2 ⟨Nat.le_of_ble_eq_true rfl, Nat.le_of_ble_eq_true rfl⟩) (rl_1 hj2) rfl rfl rfl hl.1 rfl (lv_room (Nat.le_of_ble_eq_true rfl)) dX3_gullets_5 ⟨Nat.le_of_ble_eq_true rfl, Nat.le_of_ble_eq_true rfl⟩ (fun r3 H locs hor3 hh => ?_)
  exact s_iretx C0 hh hR rfl (Nat.le_of_ble_eq_true rfl) (Nat.le_of_ble_eq_true rfl) dX3_gullets_8
def f_X3_gullets (σ : Sg) (x1 : Int32) : Option ((Nat ⊕ Int32) × Sg) := f_X3_gullets_0 σ x1
set_option maxRecDepth 100000 in
set_option maxHeartbeats 4000000 in
theorem c_X3_gullets (hst : l.stackTraces = false) (σ : Sg) (x1 : Int32) : CtX l yX3_gullets (wm yX3_gullets cX3_gullets 2 (some .int)) rmX3_gullets 1 6 vI [.ref (ad 0 0), .int x1] D cy n0 ad nT nO  σ (f_X3_gullets σ x1) := by
  intro r0 h0
  refine vx_ofW (cc := cX3_gullets) (maxL := 2) (ret := (some .int)) (by decide +kernel) rfl ?_
  intro p e s m args below meth c s₁ B hml hout hv
  obtain ⟨C0, hh, hR, rfl⟩ := ent B hml hst hv
  rw [lg_entry_eq]
  have hl := lv_entry ([.ref (ad 0 0), .int x1]) (n := 2) (Nat.le_of_ble_eq_true rfl)
  generalize (lg_sl ([.ref (ad 0 0), .int x1]) ++ List.replicate (2 - (lg_sl ([.ref (ad 0 0), .int x1])).length) Slot.unset).toArray = ls at hl ⊢
  exact b_X3_gullets_0 C0 hR hout σ x1 _ _ _ hh hl r0 h0

def rmX3_thickness : Room := { frames := 7, cells := 1, slots := 6, locals := 111 }
def f_X3_thickness_0 (σ : Sg) (x1 : Int32) : Option ((Nat ⊕ Int32) × Sg) :=
  (bx (f_X3_needTool σ x1) (fun r1 => (some (.inr (r1.2.1 1 r1.1 3), r1.2))) (fun x => some (.inl x.1, x.2)))
set_option maxRecDepth 100000 in
set_option maxHeartbeats 4000000 in
theorem b_X3_thickness_0 (C0 : Cx p l s m args meth c cX3_thickness 2 RX3 D cy n0) (hR : meth.sig.returnType = (some .int)) (hout : ∀ x ∈ c.exceptionTable.toList, False) (σ : Sg) (x1 : Int32) (H : Heap) (locs : List Loc) (ls : Array Slot) (hh : Hp D cy n0 ad nT nO s σ H locs) (hl : lv_has ls 2 [(0, .ref (ad 0 0)), (1, .int x1)]) : Sm (Qz below args s D cy n0 ad nT nO vI 1 6) (f_X3_thickness_0 σ x1) p l e rmX3_thickness s m args below meth c H locs 0 0 (F0 m 0 ls []) := by
  unfold f_X3_thickness_0
  refine s_aload_n C0 dX3_thickness_0 rfl (lv_at hl 0 rfl) ?_
  refine s_iload_n C0 dX3_thickness_1 rfl (lv_at hl 1 rfl) ?_
  refine s_Vx (As := [.int x1]) (rest := []) C0 hh (c_X3_needTool C0.2.2.2.2.2.2 _ x1) (qc22 C0.1.2.2.2.2 ⟨Nat.le_of_ble_eq_true rfl, Nat.le_of_ble_eq_true rfl⟩) (rl_b (by decide)) rfl rfl rfl hl.1 rfl (lv_room (Nat.le_of_ble_eq_true rfl)) dX3_thickness_2 ⟨Nat.le_of_ble_eq_true rfl, Nat.le_of_ble_eq_true rfl⟩ hout (Nat.le_of_ble_eq_true rfl) (Nat.le_of_ble_eq_true rfl) (fun r1 H locs hor1 hh => ?_)
  have hj2 := nT_lt hor1 hh.2.2.2
  refine s_getN (v := .int (r1.2.1 1 r1.1 3)) C0 hh (rl_1 hj2) rfl (T := TX2) (N := 14) rfl hinX2 (by decide) w200 rfl dX3_thickness_5 ?_
  exact s_iretx C0 hh hR rfl (Nat.le_of_ble_eq_true rfl) (Nat.le_of_ble_eq_true rfl) dX3_thickness_8
def f_X3_thickness (σ : Sg) (x1 : Int32) : Option ((Nat ⊕ Int32) × Sg) := f_X3_thickness_0 σ x1
set_option maxRecDepth 100000 in
set_option maxHeartbeats 4000000 in
theorem c_X3_thickness (hst : l.stackTraces = false) (σ : Sg) (x1 : Int32) : CtX l yX3_thickness (wm yX3_thickness cX3_thickness 2 (some .int)) rmX3_thickness 1 6 vI [.ref (ad 0 0), .int x1] D cy n0 ad nT nO  σ (f_X3_thickness σ x1) := by
  intro r0 h0
  refine vx_ofW (cc := cX3_thickness) (maxL := 2) (ret := (some .int)) (by decide +kernel) rfl ?_
  intro p e s m args below meth c s₁ B hml hout hv
  obtain ⟨C0, hh, hR, rfl⟩ := ent B hml hst hv
  rw [lg_entry_eq]
  have hl := lv_entry ([.ref (ad 0 0), .int x1]) (n := 2) (Nat.le_of_ble_eq_true rfl)
  generalize (lg_sl ([.ref (ad 0 0), .int x1]) ++ List.replicate (2 - (lg_sl ([.ref (ad 0 0), .int x1])).length) Slot.unset).toArray = ls at hl ⊢
  exact b_X3_thickness_0 C0 hR hout σ x1 _ _ _ hh hl r0 h0

def rmX3_state : Room := { frames := 7, cells := 1, slots := 6, locals := 111 }
def f_X3_state_0 (σ : Sg) (x1 : Int32) : Option ((Nat ⊕ Int32) × Sg) :=
  (bx (f_X3_needTool σ x1) (fun r1 => (if (((r1.2.1 1 r1.1 4)).toUInt32 % 65536).toInt32 = (r1.2.1 1 r1.1 4) then (some (.inr (r1.2.1 1 r1.1 4), r1.2)) else none)) (fun x => some (.inl x.1, x.2)))
set_option maxRecDepth 100000 in
set_option maxHeartbeats 4000000 in
theorem b_X3_state_0 (C0 : Cx p l s m args meth c cX3_state 2 RX3 D cy n0) (hR : meth.sig.returnType = (some .char)) (hout : ∀ x ∈ c.exceptionTable.toList, False) (σ : Sg) (x1 : Int32) (H : Heap) (locs : List Loc) (ls : Array Slot) (hh : Hp D cy n0 ad nT nO s σ H locs) (hl : lv_has ls 2 [(0, .ref (ad 0 0)), (1, .int x1)]) : Sm (Qz below args s D cy n0 ad nT nO vI 1 6) (f_X3_state_0 σ x1) p l e rmX3_state s m args below meth c H locs 0 0 (F0 m 0 ls []) := by
  unfold f_X3_state_0
  refine s_aload_n C0 dX3_state_0 rfl (lv_at hl 0 rfl) ?_
  refine s_iload_n C0 dX3_state_1 rfl (lv_at hl 1 rfl) ?_
  refine s_Vx (As := [.int x1]) (rest := []) C0 hh (c_X3_needTool C0.2.2.2.2.2.2 _ x1) (qc22 C0.1.2.2.2.2 ⟨Nat.le_of_ble_eq_true rfl, Nat.le_of_ble_eq_true rfl⟩) (rl_b (by decide)) rfl rfl rfl hl.1 rfl (lv_room (Nat.le_of_ble_eq_true rfl)) dX3_state_2 ⟨Nat.le_of_ble_eq_true rfl, Nat.le_of_ble_eq_true rfl⟩ hout (Nat.le_of_ble_eq_true rfl) (Nat.le_of_ble_eq_true rfl) (fun r1 H locs hor1 hh => ?_)
  have hj2 := nT_lt hor1 hh.2.2.2
  refine s_getN (v := .int (r1.2.1 1 r1.1 4)) C0 hh (rl_1 hj2) rfl (T := TX2) (N := 14) rfl hinX2 (by decide) w161 rfl dX3_state_5 ?_
  refine s_gd (fun hg3 => ?_)
  exact s_iretx C0 hh hR (nc_of hg3) (Nat.le_of_ble_eq_true rfl) (Nat.le_of_ble_eq_true rfl) dX3_state_8
def f_X3_state (σ : Sg) (x1 : Int32) : Option ((Nat ⊕ Int32) × Sg) := f_X3_state_0 σ x1
set_option maxRecDepth 100000 in
set_option maxHeartbeats 4000000 in
theorem c_X3_state (hst : l.stackTraces = false) (σ : Sg) (x1 : Int32) : CtX l yX3_state (wm yX3_state cX3_state 2 (some .char)) rmX3_state 1 6 vI [.ref (ad 0 0), .int x1] D cy n0 ad nT nO  σ (f_X3_state σ x1) := by
  intro r0 h0
  refine vx_ofW (cc := cX3_state) (maxL := 2) (ret := (some .char)) (by decide +kernel) rfl ?_
  intro p e s m args below meth c s₁ B hml hout hv
  obtain ⟨C0, hh, hR, rfl⟩ := ent B hml hst hv
  rw [lg_entry_eq]
  have hl := lv_entry ([.ref (ad 0 0), .int x1]) (n := 2) (Nat.le_of_ble_eq_true rfl)
  generalize (lg_sl ([.ref (ad 0 0), .int x1]) ++ List.replicate (2 - (lg_sl ([.ref (ad 0 0), .int x1])).length) Slot.unset).toArray = ls at hl ⊢
  exact b_X3_state_0 C0 hR hout σ x1 _ _ _ hh hl r0 h0
theorem qc31 {R : Room} {s : State} {args : Array Value} (ht : ∀ w ∈ allw, w.before args s = true) (hR : (rmX3_needBath).frames + 1 ≤ R.frames ∧ 8 + (1 + 11) + (rmX3_needBath).locals ≤ R.locals) : CallB R s args RX3 134 yX3_needBath cX3_needBath 1 none (wm yX3_needBath cX3_needBath 1 none) rmX3_needBath 1 6 1 ∧ (Cond.static yX3_needBath).before args s = true := cwS 1 ht (gd_of (fun _ h => h) _ (mS w222 w224 w64 w223)) rfl rfl rfl (by decide +kernel) hR
theorem qc32 {R : Room} {s : State} {args : Array Value} (ht : ∀ w ∈ allw, w.before args s = true) (hR : (rmX3_forceOf).frames + 1 ≤ R.frames ∧ 8 + (1 + 11) + (rmX3_forceOf).locals ≤ R.locals) : CallB R s args RX3 146 yX3_forceOf cX3_forceOf 1 (some .int) (wm yX3_forceOf cX3_forceOf 1 (some .int)) rmX3_forceOf 0 0 1 ∧ (Cond.static yX3_forceOf).before args s = true := cwS 1 ht (gd_of (fun _ h => h) _ (mS w228 w230 w64 w229)) rfl rfl rfl (by decide +kernel) hR
theorem qc33 {R : Room} {s : State} {args : Array Value} (ht : ∀ w ∈ allw, w.before args s = true) (hR : (rmX2_quench).frames + 1 ≤ R.frames ∧ 8 + (6 + 11) + (rmX2_quench).locals ≤ R.locals) : CallW R s args RX3 RX2 152 yX2_quench cX2_quench 6 none (wm yX2_quench cX2_quench 6 none) rmX2_quench 0 0 3 := cwV 3 ht (gd_of (fun _ h => h) _ (mV w232 w234 w235 w102 w233)) rfl rfl rfl (by decide +kernel) hR
def rmX3_harden : Room := { frames := 7, cells := 4, slots := 24, locals := 112 }
def f_X3_harden_0 (σ : Sg) (x1 : Int32) (x2 : Int32) (x3 : Int32) : Option ((Nat ⊕ Int32) × Sg) :=
  (bx (f_X3_needTool σ x1) (fun r1 => (bx (f_X3_needBath r1.2 x3) (fun r3 => (bx (f_X3_needWithin r3.2 x2 600 1200) (fun r4 => (if ((r4.2.1 1 r1.1 4) : Int32) = (115 : Int32) then (if ((r4.2.1 2 r1.1 3) : Int32) = (0 : Int32) then (some (.inl 4, r4.2)) else (if (900 - (r4.2.1 1 r1.1 2)) ≤ (x2 : Int32) then (if (2147483647 : Int64) = 0 then none else ((f_X3_forceOf (svz r4.2 ((r4.2.2.1 * 48271) - (r4.2.2.1 * 48271) / 2147483647 * 2147483647)) x3).bind (fun r5 => (if (5 : Int64) = 0 then none else ((f_X2_quench r5.2 r1.1 x2 r5.1 (((r5.2.2.1 - r5.2.2.1 / 5 * 5) : Int64).toInt32)).bind (fun r6 => (some (.inr (r6.2.1 1 r1.1 7), r6.2)))))))) else (some (.inr 0, r4.2)))) else (some (.inl 4, r4.2)))) (fun x => some (.inl x.1, x.2)))) (fun x => some (.inl x.1, x.2)))) (fun x => some (.inl x.1, x.2)))
set_option maxRecDepth 100000 in
set_option maxHeartbeats 4000000 in
theorem b_X3_harden_0 (C0 : Cx p l s m args meth c cX3_harden 5 RX3 D cy n0) (hR : meth.sig.returnType = (some .int)) (hout : ∀ x ∈ c.exceptionTable.toList, False) (σ : Sg) (x1 : Int32) (x2 : Int32) (x3 : Int32) (H : Heap) (locs : List Loc) (ls : Array Slot) (hh : Hp D cy n0 ad nT nO s σ H locs) (hl : lv_has ls 5 [(0, .ref (ad 0 0)), (1, .int x1), (2, .int x2), (3, .int x3)]) : Sm (Qz below args s D cy n0 ad nT nO vI 4 24) (f_X3_harden_0 σ x1 x2 x3) p l e rmX3_harden s m args below meth c H locs 0 0 (F0 m 0 ls []) := by
  unfold f_X3_harden_0
  refine s_aload_n C0 dX3_harden_0 rfl (lv_at hl 0 rfl) ?_
  refine s_iload_n C0 dX3_harden_1 rfl (lv_at hl 1 rfl) ?_
  refine s_Vx (As := [.int x1]) (rest := []) C0 hh (c_X3_needTool C0.2.2.2.2.2.2 _ x1) (qc22 C0.1.2.2.2.2 ⟨Nat.le_of_ble_eq_true rfl, Nat.le_of_ble_eq_true rfl⟩) (rl_b (by decide)) rfl rfl rfl hl.1 rfl (lv_room (Nat.le_of_ble_eq_true rfl)) dX3_harden_2 ⟨Nat.le_of_ble_eq_true rfl, Nat.le_of_ble_eq_true rfl⟩ hout (Nat.le_of_ble_eq_true rfl) (Nat.le_of_ble_eq_true rfl) (fun r1 H locs hor1 hh => ?_)
  have hj2 := nT_lt hor1 hh.2.2.2
  refine s_astore (lv' := [(4, .ref (ad 1 r1.1)), (0, .ref (ad 0 0)), (1, .int x1), (2, .int x2), (3, .int x3)]) C0 dX3_harden_5 hl (by decide) rfl (fun ls hl => ?_)
  refine s_iload_n C0 dX3_harden_7 rfl (lv_at hl 4 rfl) ?_
  refine s_Sx (As := [.int x3]) (rest := []) C0 hh (c_X3_needBath C0.2.2.2.2.2.2 _ x3) (qc31 C0.1.2.2.2.2 ⟨Nat.le_of_ble_eq_true rfl, Nat.le_of_ble_eq_true rfl⟩) rfl hl.1 rfl (lv_room (Nat.le_of_ble_eq_true rfl)) dX3_harden_8 ⟨Nat.le_of_ble_eq_true rfl, Nat.le_of_ble_eq_true rfl⟩ hout (Nat.le_of_ble_eq_true rfl) (Nat.le_of_ble_eq_true rfl) (fun r3 H locs hor3 hh => ?_)
  refine s_iload_n C0 dX3_harden_11 rfl (lv_at hl 3 rfl) ?_
  refine s_sipush (v := 600) C0 dX3_harden_12 (by decide) ?_
  refine s_sipush (v := 1200) C0 dX3_harden_15 (by decide) ?_
  refine s_Sx (As := [.int x2, .int 600, .int 1200]) (rest := []) C0 hh (c_X3_needWithin C0.2.2.2.2.2.2 _ x2 600 1200) (qc20 C0.1.2.2.2.2 ⟨Nat.le_of_ble_eq_true rfl, Nat.le_of_ble_eq_true rfl⟩) rfl hl.1 rfl (lv_room (Nat.le_of_ble_eq_true rfl)) dX3_harden_18 ⟨Nat.le_of_ble_eq_true rfl, Nat.le_of_ble_eq_true rfl⟩ hout (Nat.le_of_ble_eq_true rfl) (Nat.le_of_ble_eq_true rfl) (fun r4 H locs hor4 hh => ?_)
  refine s_aload C0 dX3_harden_21 (lv_at hl 0 rfl) ?_
  refine s_getN (v := .int (r4.2.1 1 r1.1 4)) C0 hh (rl_1 hj2) rfl (T := TX2) (N := 14) rfl hinX2 (by decide) w161 rfl dX3_harden_23 ?_
  refine s_bipush (v := 115) C0 dX3_harden_26 (by decide) ?_
  refine s_icmp_ne (tgt := 42) C0 dX3_harden_28 (by decide) (fun _ => ?_) (fun _ => ?_)
  · exact s_thr (text := "not soft or without teeth") C0 hh ax164 w162 w163 (by decide) hl.1 dX3_harden_42 dX3_harden_45 dX3_harden_46 dX3_harden_48 dX3_harden_51 hout (Nat.le_of_ble_eq_true rfl) (Nat.le_of_ble_eq_true rfl) (Nat.le_of_ble_eq_true rfl) (Nat.le_of_ble_eq_true rfl) (Nat.le_of_ble_eq_true rfl) (Nat.le_of_ble_eq_true rfl)
  · refine s_aload C0 dX3_harden_31 (lv_at hl 0 rfl) ?_
    refine s_getN (v := .ref (ad 2 r1.1)) C0 hh (rl_1 hj2) rfl (T := TX2) (N := 14) rfl hinX2 (by decide) w199 rfl dX3_harden_33 ?_
    refine s_getN (v := .int (r4.2.1 2 r1.1 3)) C0 hh (rl_2 (Or.inl hj2)) rfl (T := TX1) (N := 8) rfl hinX1 (by decide) w160 rfl dX3_harden_36 ?_
    refine s_if_ne (tgt := 52) C0 dX3_harden_39 (by decide) (fun _ => ?_) (fun _ => ?_)
    · refine s_iload_n C0 dX3_harden_52 rfl (lv_at hl 3 rfl) ?_
      refine s_sipush (v := 900) C0 dX3_harden_53 (by decide) ?_
      refine s_aload C0 dX3_harden_56 (lv_at hl 0 rfl) ?_
      refine s_getN (v := .int (r4.2.1 1 r1.1 2)) C0 hh (rl_1 hj2) rfl (T := TX2) (N := 14) rfl hinX2 (by decide) w225 rfl dX3_harden_58 ?_
      refine s_isub C0 dX3_harden_61 ?_
      refine s_icmp_ge (tgt := 67) C0 dX3_harden_62 (by decide) (fun _ => ?_) (fun _ => ?_)
      · refine s_aload_n C0 dX3_harden_67 rfl (lv_at hl 1 rfl) ?_
        refine s_aload_n C0 dX3_harden_68 rfl (lv_at hl 1 rfl) ?_
        refine s_get (v := .long r4.2.2.1) C0 hh (rl_b (by decide)) rfl (T := TX3) (N := 6) rfl hinX3 (by decide) w29 rfl dX3_harden_69 ?_
        refine s_ldc2 (v := 48271) C0 w226 dX3_harden_72 ?_
        refine s_lmul C0 dX3_harden_75 ?_
        refine s_ldc2 (v := 2147483647) C0 w227 dX3_harden_76 ?_
        refine s_lrem C0 dX3_harden_79 ?_
        refine s_putz C0 hh hinX3 w29 dX3_harden_80 (fun H locs hh => ?_)
        refine s_aload C0 dX3_harden_83 (lv_at hl 0 rfl) ?_
        refine s_iload_n C0 dX3_harden_85 rfl (lv_at hl 3 rfl) ?_
        refine s_iload_n C0 dX3_harden_86 rfl (lv_at hl 4 rfl) ?_
        refine s_S (As := [.int x3]) (rest := [.int x2, .ref (ad 1 r1.1)]) C0 hh (c_X3_forceOf C0.2.2.2.2.2.2 _ x3) (qc32 C0.1.2.2.2.2 ⟨Nat.le_of_ble_eq_true rfl, Nat.le_of_ble_eq_true rfl⟩) rfl hl.1 rfl (lv_room (Nat.le_of_ble_eq_true rfl)) dX3_harden_87 ⟨Nat.le_of_ble_eq_true rfl, Nat.le_of_ble_eq_true rfl⟩ (fun r5 H locs hor5 hh => ?_)
        refine s_aload_n C0 dX3_harden_90 rfl (lv_at hl 1 rfl) ?_
        refine s_get (v := .long r5.2.2.1) C0 hh (rl_b (by decide)) rfl (T := TX3) (N := 6) rfl hinX3 (by decide) w29 rfl dX3_harden_91 ?_
        refine s_ldc2 (v := 5) C0 w231 dX3_harden_94 ?_
        refine s_lrem C0 dX3_harden_97 ?_
        refine s_l2i C0 dX3_harden_98 rfl ?_
        refine s_V (As := [.int x2, .int r5.1, .int (((r5.2.2.1 - r5.2.2.1 / 5 * 5) : Int64).toInt32)]) (rest := []) C0 hh (c_X2_quench C0.2.2.2.2.2.2 _ r1.1 x2 r5.1 (((r5.2.2.1 - r5.2.2.1 / 5 * 5) : Int64).toInt32) hj2) (qc33 C0.1.2.2.2.2 ⟨Nat.le_of_ble_eq_true rfl, Nat.le_of_ble_eq_true rfl⟩) (rl_1 hj2) rfl rfl rfl hl.1 rfl (lv_room (Nat.le_of_ble_eq_true rfl)) dX3_harden_99 ⟨Nat.le_of_ble_eq_true rfl, Nat.le_of_ble_eq_true rfl⟩ (fun r6 H locs hor6 hh => ?_)
        refine s_aload C0 dX3_harden_102 (lv_at hl 0 rfl) ?_
        refine s_getN (v := .int (r6.2.1 1 r1.1 7)) C0 hh (rl_1 hj2) rfl (T := TX2) (N := 14) rfl hinX2 (by decide) w236 rfl dX3_harden_104 ?_
        exact s_iretx C0 hh hR rfl (Nat.le_of_ble_eq_true rfl) (Nat.le_of_ble_eq_true rfl) dX3_harden_107
      · refine s_iconst (v := 0) C0 dX3_harden_65 (by decide) ?_
        exact s_iretx C0 hh hR rfl (Nat.le_of_ble_eq_true rfl) (Nat.le_of_ble_eq_true rfl) dX3_harden_66
    · exact s_thr (text := "not soft or without teeth") C0 hh ax164 w162 w163 (by decide) hl.1 dX3_harden_42 dX3_harden_45 dX3_harden_46 dX3_harden_48 dX3_harden_51 hout (Nat.le_of_ble_eq_true rfl) (Nat.le_of_ble_eq_true rfl) (Nat.le_of_ble_eq_true rfl) (Nat.le_of_ble_eq_true rfl) (Nat.le_of_ble_eq_true rfl) (Nat.le_of_ble_eq_true rfl)
def f_X3_harden (σ : Sg) (x1 : Int32) (x2 : Int32) (x3 : Int32) : Option ((Nat ⊕ Int32) × Sg) := f_X3_harden_0 σ x1 x2 x3
set_option maxRecDepth 100000 in
set_option maxHeartbeats 4000000 in
theorem c_X3_harden (hst : l.stackTraces = false) (σ : Sg) (x1 : Int32) (x2 : Int32) (x3 : Int32) : CtX l yX3_harden (wm yX3_harden cX3_harden 5 (some .int)) rmX3_harden 4 24 vI [.ref (ad 0 0), .int x1, .int x2, .int x3] D cy n0 ad nT nO  σ (f_X3_harden σ x1 x2 x3) := by
  intro r0 h0
  refine vx_ofW (cc := cX3_harden) (maxL := 5) (ret := (some .int)) (by decide +kernel) rfl ?_
  intro p e s m args below meth c s₁ B hml hout hv
  obtain ⟨C0, hh, hR, rfl⟩ := ent B hml hst hv
  rw [lg_entry_eq]
  have hl := lv_entry ([.ref (ad 0 0), .int x1, .int x2, .int x3]) (n := 5) (Nat.le_of_ble_eq_true rfl)
  generalize (lg_sl ([.ref (ad 0 0), .int x1, .int x2, .int x3]) ++ List.replicate (5 - (lg_sl ([.ref (ad 0 0), .int x1, .int x2, .int x3])).length) Slot.unset).toArray = ls at hl ⊢
  exact b_X3_harden_0 C0 hR hout σ x1 x2 x3 _ _ _ hh hl r0 h0

def rmX3_hardness : Room := { frames := 7, cells := 1, slots := 6, locals := 111 }
def f_X3_hardness_0 (σ : Sg) (x1 : Int32) : Option ((Nat ⊕ Int32) × Sg) :=
  (bx (f_X3_needTool σ x1) (fun r1 => (some (.inr (r1.2.1 1 r1.1 7), r1.2))) (fun x => some (.inl x.1, x.2)))
set_option maxRecDepth 100000 in
set_option maxHeartbeats 4000000 in
theorem b_X3_hardness_0 (C0 : Cx p l s m args meth c cX3_hardness 2 RX3 D cy n0) (hR : meth.sig.returnType = (some .int)) (hout : ∀ x ∈ c.exceptionTable.toList, False) (σ : Sg) (x1 : Int32) (H : Heap) (locs : List Loc) (ls : Array Slot) (hh : Hp D cy n0 ad nT nO s σ H locs) (hl : lv_has ls 2 [(0, .ref (ad 0 0)), (1, .int x1)]) : Sm (Qz below args s D cy n0 ad nT nO vI 1 6) (f_X3_hardness_0 σ x1) p l e rmX3_hardness s m args below meth c H locs 0 0 (F0 m 0 ls []) := by
  unfold f_X3_hardness_0
  refine s_aload_n C0 dX3_hardness_0 rfl (lv_at hl 0 rfl) ?_
  refine s_iload_n C0 dX3_hardness_1 rfl (lv_at hl 1 rfl) ?_
  refine s_Vx (As := [.int x1]) (rest := []) C0 hh (c_X3_needTool C0.2.2.2.2.2.2 _ x1) (qc22 C0.1.2.2.2.2 ⟨Nat.le_of_ble_eq_true rfl, Nat.le_of_ble_eq_true rfl⟩) (rl_b (by decide)) rfl rfl rfl hl.1 rfl (lv_room (Nat.le_of_ble_eq_true rfl)) dX3_hardness_2 ⟨Nat.le_of_ble_eq_true rfl, Nat.le_of_ble_eq_true rfl⟩ hout (Nat.le_of_ble_eq_true rfl) (Nat.le_of_ble_eq_true rfl) (fun r1 H locs hor1 hh => ?_)
  have hj2 := nT_lt hor1 hh.2.2.2
  refine s_getN (v := .int (r1.2.1 1 r1.1 7)) C0 hh (rl_1 hj2) rfl (T := TX2) (N := 14) rfl hinX2 (by decide) w236 rfl dX3_hardness_5 ?_
  exact s_iretx C0 hh hR rfl (Nat.le_of_ble_eq_true rfl) (Nat.le_of_ble_eq_true rfl) dX3_hardness_8
def f_X3_hardness (σ : Sg) (x1 : Int32) : Option ((Nat ⊕ Int32) × Sg) := f_X3_hardness_0 σ x1
set_option maxRecDepth 100000 in
set_option maxHeartbeats 4000000 in
theorem c_X3_hardness (hst : l.stackTraces = false) (σ : Sg) (x1 : Int32) : CtX l yX3_hardness (wm yX3_hardness cX3_hardness 2 (some .int)) rmX3_hardness 1 6 vI [.ref (ad 0 0), .int x1] D cy n0 ad nT nO  σ (f_X3_hardness σ x1) := by
  intro r0 h0
  refine vx_ofW (cc := cX3_hardness) (maxL := 2) (ret := (some .int)) (by decide +kernel) rfl ?_
  intro p e s m args below meth c s₁ B hml hout hv
  obtain ⟨C0, hh, hR, rfl⟩ := ent B hml hst hv
  rw [lg_entry_eq]
  have hl := lv_entry ([.ref (ad 0 0), .int x1]) (n := 2) (Nat.le_of_ble_eq_true rfl)
  generalize (lg_sl ([.ref (ad 0 0), .int x1]) ++ List.replicate (2 - (lg_sl ([.ref (ad 0 0), .int x1])).length) Slot.unset).toArray = ls at hl ⊢
  exact b_X3_hardness_0 C0 hR hout σ x1 _ _ _ hh hl r0 h0

def rmX3_bend : Room := { frames := 7, cells := 1, slots := 6, locals := 111 }
def f_X3_bend_0 (σ : Sg) (x1 : Int32) : Option ((Nat ⊕ Int32) × Sg) :=
  (bx (f_X3_needTool σ x1) (fun r1 => (some (.inr (r1.2.1 1 r1.1 8), r1.2))) (fun x => some (.inl x.1, x.2)))
set_option maxRecDepth 100000 in
set_option maxHeartbeats 4000000 in
theorem b_X3_bend_0 (C0 : Cx p l s m args meth c cX3_bend 2 RX3 D cy n0) (hR : meth.sig.returnType = (some .int)) (hout : ∀ x ∈ c.exceptionTable.toList, False) (σ : Sg) (x1 : Int32) (H : Heap) (locs : List Loc) (ls : Array Slot) (hh : Hp D cy n0 ad nT nO s σ H locs) (hl : lv_has ls 2 [(0, .ref (ad 0 0)), (1, .int x1)]) : Sm (Qz below args s D cy n0 ad nT nO vI 1 6) (f_X3_bend_0 σ x1) p l e rmX3_bend s m args below meth c H locs 0 0 (F0 m 0 ls []) := by
  unfold f_X3_bend_0
  refine s_aload_n C0 dX3_bend_0 rfl (lv_at hl 0 rfl) ?_
  refine s_iload_n C0 dX3_bend_1 rfl (lv_at hl 1 rfl) ?_
  refine s_Vx (As := [.int x1]) (rest := []) C0 hh (c_X3_needTool C0.2.2.2.2.2.2 _ x1) (qc22 C0.1.2.2.2.2 ⟨Nat.le_of_ble_eq_true rfl, Nat.le_of_ble_eq_true rfl⟩) (rl_b (by decide)) rfl rfl rfl hl.1 rfl (lv_room (Nat.le_of_ble_eq_true rfl)) dX3_bend_2 ⟨Nat.le_of_ble_eq_true rfl, Nat.le_of_ble_eq_true rfl⟩ hout (Nat.le_of_ble_eq_true rfl) (Nat.le_of_ble_eq_true rfl) (fun r1 H locs hor1 hh => ?_)
  have hj2 := nT_lt hor1 hh.2.2.2
  refine s_getN (v := .int (r1.2.1 1 r1.1 8)) C0 hh (rl_1 hj2) rfl (T := TX2) (N := 14) rfl hinX2 (by decide) w237 rfl dX3_bend_5 ?_
  exact s_iretx C0 hh hR rfl (Nat.le_of_ble_eq_true rfl) (Nat.le_of_ble_eq_true rfl) dX3_bend_8
def f_X3_bend (σ : Sg) (x1 : Int32) : Option ((Nat ⊕ Int32) × Sg) := f_X3_bend_0 σ x1
set_option maxRecDepth 100000 in
set_option maxHeartbeats 4000000 in
theorem c_X3_bend (hst : l.stackTraces = false) (σ : Sg) (x1 : Int32) : CtX l yX3_bend (wm yX3_bend cX3_bend 2 (some .int)) rmX3_bend 1 6 vI [.ref (ad 0 0), .int x1] D cy n0 ad nT nO  σ (f_X3_bend σ x1) := by
  intro r0 h0
  refine vx_ofW (cc := cX3_bend) (maxL := 2) (ret := (some .int)) (by decide +kernel) rfl ?_
  intro p e s m args below meth c s₁ B hml hout hv
  obtain ⟨C0, hh, hR, rfl⟩ := ent B hml hst hv
  rw [lg_entry_eq]
  have hl := lv_entry ([.ref (ad 0 0), .int x1]) (n := 2) (Nat.le_of_ble_eq_true rfl)
  generalize (lg_sl ([.ref (ad 0 0), .int x1]) ++ List.replicate (2 - (lg_sl ([.ref (ad 0 0), .int x1])).length) Slot.unset).toArray = ls at hl ⊢
  exact b_X3_bend_0 C0 hR hout σ x1 _ _ _ hh hl r0 h0
theorem qc34 {R : Room} {s : State} {args : Array Value} (ht : ∀ w ∈ allw, w.before args s = true) (hR : (rmX3_needHard).frames + 1 ≤ R.frames ∧ 8 + (1 + 11) + (rmX3_needHard).locals ≤ R.locals) : CallB R s args RX3 161 yX3_needHard cX3_needHard 1 none (wm yX3_needHard cX3_needHard 1 none) rmX3_needHard 1 6 1 ∧ (Cond.static yX3_needHard).before args s = true := cwS 1 ht (gd_of (fun _ h => h) _ (mS w238 w240 w64 w239)) rfl rfl rfl (by decide +kernel) hR
def rmX3_temper : Room := { frames := 7, cells := 3, slots := 18, locals := 112 }
def f_X3_temper_0 (σ : Sg) (x1 : Int32) (x2 : Int32) : Option ((Nat ⊕ Int32) × Sg) :=
  (bx (f_X3_needTool σ x1) (fun r1 => (bx (f_X3_needWithin r1.2 x2 100 400) (fun r3 => (bx (f_X3_needHard r3.2 r1.1) (fun r4 => (if (25 : Int32) = 0 then none else (some (.inr ((sv (sv r4.2 1 r1.1 7 (if (1 : Int32) < ((r4.2.1 1 r1.1 7) - (x2 / 25)) then ((r4.2.1 1 r1.1 7) - (x2 / 25)) else 1)) 1 r1.1 9 2).1 1 r1.1 7), (sv (sv r4.2 1 r1.1 7 (if (1 : Int32) < ((r4.2.1 1 r1.1 7) - (x2 / 25)) then ((r4.2.1 1 r1.1 7) - (x2 / 25)) else 1)) 1 r1.1 9 2))))) (fun x => some (.inl x.1, x.2)))) (fun x => some (.inl x.1, x.2)))) (fun x => some (.inl x.1, x.2)))
set_option maxRecDepth 100000 in
set_option maxHeartbeats 4000000 in
theorem b_X3_temper_0 (C0 : Cx p l s m args meth c cX3_temper 4 RX3 D cy n0) (hR : meth.sig.returnType = (some .int)) (hout : ∀ x ∈ c.exceptionTable.toList, False) (σ : Sg) (x1 : Int32) (x2 : Int32) (H : Heap) (locs : List Loc) (ls : Array Slot) (hh : Hp D cy n0 ad nT nO s σ H locs) (hl : lv_has ls 4 [(0, .ref (ad 0 0)), (1, .int x1), (2, .int x2)]) : Sm (Qz below args s D cy n0 ad nT nO vI 3 18) (f_X3_temper_0 σ x1 x2) p l e rmX3_temper s m args below meth c H locs 0 0 (F0 m 0 ls []) := by
  unfold f_X3_temper_0
  refine s_aload_n C0 dX3_temper_0 rfl (lv_at hl 0 rfl) ?_
  refine s_iload_n C0 dX3_temper_1 rfl (lv_at hl 1 rfl) ?_
  refine s_Vx (As := [.int x1]) (rest := []) C0 hh (c_X3_needTool C0.2.2.2.2.2.2 _ x1) (qc22 C0.1.2.2.2.2 ⟨Nat.le_of_ble_eq_true rfl, Nat.le_of_ble_eq_true rfl⟩) (rl_b (by decide)) rfl rfl rfl hl.1 rfl (lv_room (Nat.le_of_ble_eq_true rfl)) dX3_temper_2 ⟨Nat.le_of_ble_eq_true rfl, Nat.le_of_ble_eq_true rfl⟩ hout (Nat.le_of_ble_eq_true rfl) (Nat.le_of_ble_eq_true rfl) (fun r1 H locs hor1 hh => ?_)
  have hj2 := nT_lt hor1 hh.2.2.2
  refine s_astore_n (lv' := [(3, .ref (ad 1 r1.1)), (0, .ref (ad 0 0)), (1, .int x1), (2, .int x2)]) C0 dX3_temper_5 rfl hl (by decide) rfl (fun ls hl => ?_)
  refine s_iload_n C0 dX3_temper_6 rfl (lv_at hl 3 rfl) ?_
  refine s_bipush (v := 100) C0 dX3_temper_7 (by decide) ?_
  refine s_sipush (v := 400) C0 dX3_temper_9 (by decide) ?_
  refine s_Sx (As := [.int x2, .int 100, .int 400]) (rest := []) C0 hh (c_X3_needWithin C0.2.2.2.2.2.2 _ x2 100 400) (qc20 C0.1.2.2.2.2 ⟨Nat.le_of_ble_eq_true rfl, Nat.le_of_ble_eq_true rfl⟩) rfl hl.1 rfl (lv_room (Nat.le_of_ble_eq_true rfl)) dX3_temper_12 ⟨Nat.le_of_ble_eq_true rfl, Nat.le_of_ble_eq_true rfl⟩ hout (Nat.le_of_ble_eq_true rfl) (Nat.le_of_ble_eq_true rfl) (fun r3 H locs hor3 hh => ?_)
  refine s_aload_n C0 dX3_temper_15 rfl (lv_at hl 0 rfl) ?_
  refine s_Sx (As := [.ref (ad 1 r1.1)]) (rest := []) C0 hh (c_X3_needHard C0.2.2.2.2.2.2 _ r1.1 hj2) (qc34 C0.1.2.2.2.2 ⟨Nat.le_of_ble_eq_true rfl, Nat.le_of_ble_eq_true rfl⟩) rfl hl.1 rfl (lv_room (Nat.le_of_ble_eq_true rfl)) dX3_temper_16 ⟨Nat.le_of_ble_eq_true rfl, Nat.le_of_ble_eq_true rfl⟩ hout (Nat.le_of_ble_eq_true rfl) (Nat.le_of_ble_eq_true rfl) (fun r4 H locs hor4 hh => ?_)
  refine s_aload_n C0 dX3_temper_19 rfl (lv_at hl 0 rfl) ?_
  refine s_iconst (v := 1) C0 dX3_temper_20 (by decide) ?_
  refine s_aload_n C0 dX3_temper_21 rfl (lv_at hl 0 rfl) ?_
  refine s_getN (v := .int (r4.2.1 1 r1.1 7)) C0 hh (rl_1 hj2) rfl (T := TX2) (N := 14) rfl hinX2 (by decide) w236 rfl dX3_temper_22 ?_
  refine s_iload_n C0 dX3_temper_25 rfl (lv_at hl 3 rfl) ?_
  refine s_bipush (v := 25) C0 dX3_temper_26 (by decide) ?_
  refine s_idiv C0 dX3_temper_28 ?_
  refine s_isub C0 dX3_temper_29 ?_
  refine s_mmax C0 w241 w71 w72 w73 hl.1 (Nat.le_of_ble_eq_true rfl) (Nat.le_of_ble_eq_true rfl) (Nat.le_of_ble_eq_true rfl) (Nat.le_of_ble_eq_true rfl) dX3_temper_30 ?_
  refine s_putN C0 hh (rl_1 hj2) rfl rfl (T := TX2) (N := 14) rfl hinX2 tyX2 tyX2_ok nmX2 (by decide) w236 rfl (ty := .int) (by decide +kernel) rfl rfl (Nat.le_of_ble_eq_true rfl) (by decide) (by decide) (by decide) dX3_temper_33 (fun H locs hh => ?_)
  refine s_aload_n C0 dX3_temper_36 rfl (lv_at hl 0 rfl) ?_
  refine s_iconst (v := 2) C0 dX3_temper_37 (by decide) ?_
  refine s_putN C0 hh (rl_1 hj2) rfl rfl (T := TX2) (N := 14) rfl hinX2 tyX2 tyX2_ok nmX2 (by decide) w242 rfl (ty := .int) (by decide +kernel) rfl rfl (Nat.le_of_ble_eq_true rfl) (by decide) (by decide) (by decide) dX3_temper_38 (fun H locs hh => ?_)
  refine s_aload_n C0 dX3_temper_41 rfl (lv_at hl 0 rfl) ?_
  refine s_getN (v := .int ((sv (sv r4.2 1 r1.1 7 (if (1 : Int32) < ((r4.2.1 1 r1.1 7) - (x2 / 25)) then ((r4.2.1 1 r1.1 7) - (x2 / 25)) else 1)) 1 r1.1 9 2).1 1 r1.1 7)) C0 hh (rl_1 hj2) rfl (T := TX2) (N := 14) rfl hinX2 (by decide) w236 rfl dX3_temper_42 ?_
  exact s_iretx C0 hh hR rfl (Nat.le_of_ble_eq_true rfl) (Nat.le_of_ble_eq_true rfl) dX3_temper_45
def f_X3_temper (σ : Sg) (x1 : Int32) (x2 : Int32) : Option ((Nat ⊕ Int32) × Sg) := f_X3_temper_0 σ x1 x2
set_option maxRecDepth 100000 in
set_option maxHeartbeats 4000000 in
theorem c_X3_temper (hst : l.stackTraces = false) (σ : Sg) (x1 : Int32) (x2 : Int32) : CtX l yX3_temper (wm yX3_temper cX3_temper 4 (some .int)) rmX3_temper 3 18 vI [.ref (ad 0 0), .int x1, .int x2] D cy n0 ad nT nO  σ (f_X3_temper σ x1 x2) := by
  intro r0 h0
  refine vx_ofW (cc := cX3_temper) (maxL := 4) (ret := (some .int)) (by decide +kernel) rfl ?_
  intro p e s m args below meth c s₁ B hml hout hv
  obtain ⟨C0, hh, hR, rfl⟩ := ent B hml hst hv
  rw [lg_entry_eq]
  have hl := lv_entry ([.ref (ad 0 0), .int x1, .int x2]) (n := 4) (Nat.le_of_ble_eq_true rfl)
  generalize (lg_sl ([.ref (ad 0 0), .int x1, .int x2]) ++ List.replicate (4 - (lg_sl ([.ref (ad 0 0), .int x1, .int x2])).length) Slot.unset).toArray = ls at hl ⊢
  exact b_X3_temper_0 C0 hR hout σ x1 x2 _ _ _ hh hl r0 h0

def rmX3_straighten : Room := { frames := 7, cells := 3, slots := 18, locals := 112 }
def f_X3_straighten_0 (σ : Sg) (x1 : Int32) (x2 : Int32) : Option ((Nat ⊕ Int32) × Sg) :=
  (bx (f_X3_needTool σ x1) (fun r1 => (bx (f_X3_needWithin r1.2 x2 1 6) (fun r3 => (if ((r3.2.1 1 r1.1 9) : Int32) = (0 : Int32) then (some (.inl 4, r3.2)) else (some (.inr ((sv (sv r3.2 1 r1.1 9 ((r3.2.1 1 r1.1 9) - 1)) 1 r1.1 8 (if (0 : Int32) < (((sv r3.2 1 r1.1 9 ((r3.2.1 1 r1.1 9) - 1)).1 1 r1.1 8) - x2) then (((sv r3.2 1 r1.1 9 ((r3.2.1 1 r1.1 9) - 1)).1 1 r1.1 8) - x2) else 0)).1 1 r1.1 8), (sv (sv r3.2 1 r1.1 9 ((r3.2.1 1 r1.1 9) - 1)) 1 r1.1 8 (if (0 : Int32) < (((sv r3.2 1 r1.1 9 ((r3.2.1 1 r1.1 9) - 1)).1 1 r1.1 8) - x2) then (((sv r3.2 1 r1.1 9 ((r3.2.1 1 r1.1 9) - 1)).1 1 r1.1 8) - x2) else 0)))))) (fun x => some (.inl x.1, x.2)))) (fun x => some (.inl x.1, x.2)))
set_option maxRecDepth 100000 in
set_option maxHeartbeats 4000000 in
theorem b_X3_straighten_0 (C0 : Cx p l s m args meth c cX3_straighten 4 RX3 D cy n0) (hR : meth.sig.returnType = (some .int)) (hout : ∀ x ∈ c.exceptionTable.toList, False) (σ : Sg) (x1 : Int32) (x2 : Int32) (H : Heap) (locs : List Loc) (ls : Array Slot) (hh : Hp D cy n0 ad nT nO s σ H locs) (hl : lv_has ls 4 [(0, .ref (ad 0 0)), (1, .int x1), (2, .int x2)]) : Sm (Qz below args s D cy n0 ad nT nO vI 3 18) (f_X3_straighten_0 σ x1 x2) p l e rmX3_straighten s m args below meth c H locs 0 0 (F0 m 0 ls []) := by
  unfold f_X3_straighten_0
  refine s_aload_n C0 dX3_straighten_0 rfl (lv_at hl 0 rfl) ?_
  refine s_iload_n C0 dX3_straighten_1 rfl (lv_at hl 1 rfl) ?_
  refine s_Vx (As := [.int x1]) (rest := []) C0 hh (c_X3_needTool C0.2.2.2.2.2.2 _ x1) (qc22 C0.1.2.2.2.2 ⟨Nat.le_of_ble_eq_true rfl, Nat.le_of_ble_eq_true rfl⟩) (rl_b (by decide)) rfl rfl rfl hl.1 rfl (lv_room (Nat.le_of_ble_eq_true rfl)) dX3_straighten_2 ⟨Nat.le_of_ble_eq_true rfl, Nat.le_of_ble_eq_true rfl⟩ hout (Nat.le_of_ble_eq_true rfl) (Nat.le_of_ble_eq_true rfl) (fun r1 H locs hor1 hh => ?_)
  have hj2 := nT_lt hor1 hh.2.2.2
  refine s_astore_n (lv' := [(3, .ref (ad 1 r1.1)), (0, .ref (ad 0 0)), (1, .int x1), (2, .int x2)]) C0 dX3_straighten_5 rfl hl (by decide) rfl (fun ls hl => ?_)
  refine s_iload_n C0 dX3_straighten_6 rfl (lv_at hl 3 rfl) ?_
  refine s_iconst (v := 1) C0 dX3_straighten_7 (by decide) ?_
  refine s_bipush (v := 6) C0 dX3_straighten_8 (by decide) ?_
  refine s_Sx (As := [.int x2, .int 1, .int 6]) (rest := []) C0 hh (c_X3_needWithin C0.2.2.2.2.2.2 _ x2 1 6) (qc20 C0.1.2.2.2.2 ⟨Nat.le_of_ble_eq_true rfl, Nat.le_of_ble_eq_true rfl⟩) rfl hl.1 rfl (lv_room (Nat.le_of_ble_eq_true rfl)) dX3_straighten_10 ⟨Nat.le_of_ble_eq_true rfl, Nat.le_of_ble_eq_true rfl⟩ hout (Nat.le_of_ble_eq_true rfl) (Nat.le_of_ble_eq_true rfl) (fun r3 H locs hor3 hh => ?_)
  refine s_aload_n C0 dX3_straighten_13 rfl (lv_at hl 0 rfl) ?_
  refine s_getN (v := .int (r3.2.1 1 r1.1 9)) C0 hh (rl_1 hj2) rfl (T := TX2) (N := 14) rfl hinX2 (by decide) w242 rfl dX3_straighten_14 ?_
  refine s_if_ne (tgt := 30) C0 dX3_straighten_17 (by decide) (fun _ => ?_) (fun _ => ?_)
  · refine s_aload_n C0 dX3_straighten_30 rfl (lv_at hl 0 rfl) ?_
    refine s_dup C0 dX3_straighten_31 rfl ?_
    refine s_getN (v := .int (r3.2.1 1 r1.1 9)) C0 hh (rl_1 hj2) rfl (T := TX2) (N := 14) rfl hinX2 (by decide) w242 rfl dX3_straighten_32 ?_
    refine s_iconst (v := 1) C0 dX3_straighten_35 (by decide) ?_
    refine s_isub C0 dX3_straighten_36 ?_
    refine s_putN C0 hh (rl_1 hj2) rfl rfl (T := TX2) (N := 14) rfl hinX2 tyX2 tyX2_ok nmX2 (by decide) w242 rfl (ty := .int) (by decide +kernel) rfl rfl (Nat.le_of_ble_eq_true rfl) (by decide) (by decide) (by decide) dX3_straighten_37 (fun H locs hh => ?_)
    refine s_aload_n C0 dX3_straighten_40 rfl (lv_at hl 0 rfl) ?_
    refine s_iconst (v := 0) C0 dX3_straighten_41 (by decide) ?_
    refine s_aload_n C0 dX3_straighten_42 rfl (lv_at hl 0 rfl) ?_
    refine s_getN (v := .int ((sv r3.2 1 r1.1 9 ((r3.2.1 1 r1.1 9) - 1)).1 1 r1.1 8)) C0 hh (rl_1 hj2) rfl (T := TX2) (N := 14) rfl hinX2 (by decide) w237 rfl dX3_straighten_43 ?_
    refine s_iload_n C0 dX3_straighten_46 rfl (lv_at hl 3 rfl) ?_
    refine s_isub C0 dX3_straighten_47 ?_
    refine s_mmax C0 w241 w71 w72 w73 hl.1 (Nat.le_of_ble_eq_true rfl) (Nat.le_of_ble_eq_true rfl) (Nat.le_of_ble_eq_true rfl) (Nat.le_of_ble_eq_true rfl) dX3_straighten_48 ?_
    refine s_putN C0 hh (rl_1 hj2) rfl rfl (T := TX2) (N := 14) rfl hinX2 tyX2 tyX2_ok nmX2 (by decide) w237 rfl (ty := .int) (by decide +kernel) rfl rfl (Nat.le_of_ble_eq_true rfl) (by decide) (by decide) (by decide) dX3_straighten_51 (fun H locs hh => ?_)
    refine s_aload_n C0 dX3_straighten_54 rfl (lv_at hl 0 rfl) ?_
    refine s_getN (v := .int ((sv (sv r3.2 1 r1.1 9 ((r3.2.1 1 r1.1 9) - 1)) 1 r1.1 8 (if (0 : Int32) < (((sv r3.2 1 r1.1 9 ((r3.2.1 1 r1.1 9) - 1)).1 1 r1.1 8) - x2) then (((sv r3.2 1 r1.1 9 ((r3.2.1 1 r1.1 9) - 1)).1 1 r1.1 8) - x2) else 0)).1 1 r1.1 8)) C0 hh (rl_1 hj2) rfl (T := TX2) (N := 14) rfl hinX2 (by decide) w237 rfl dX3_straighten_55 ?_
    exact s_iretx C0 hh hR rfl (Nat.le_of_ble_eq_true rfl) (Nat.le_of_ble_eq_true rfl) dX3_straighten_58
  · exact s_thr (text := "not warm, or straightened twice") C0 hh ax164 w162 w163 (by decide) hl.1 dX3_straighten_20 dX3_straighten_23 dX3_straighten_24 dX3_straighten_26 dX3_straighten_29 hout (Nat.le_of_ble_eq_true rfl) (Nat.le_of_ble_eq_true rfl) (Nat.le_of_ble_eq_true rfl) (Nat.le_of_ble_eq_true rfl) (Nat.le_of_ble_eq_true rfl) (Nat.le_of_ble_eq_true rfl)
def f_X3_straighten (σ : Sg) (x1 : Int32) (x2 : Int32) : Option ((Nat ⊕ Int32) × Sg) := f_X3_straighten_0 σ x1 x2
set_option maxRecDepth 100000 in
set_option maxHeartbeats 4000000 in
theorem c_X3_straighten (hst : l.stackTraces = false) (σ : Sg) (x1 : Int32) (x2 : Int32) : CtX l yX3_straighten (wm yX3_straighten cX3_straighten 4 (some .int)) rmX3_straighten 3 18 vI [.ref (ad 0 0), .int x1, .int x2] D cy n0 ad nT nO  σ (f_X3_straighten σ x1 x2) := by
  intro r0 h0
  refine vx_ofW (cc := cX3_straighten) (maxL := 4) (ret := (some .int)) (by decide +kernel) rfl ?_
  intro p e s m args below meth c s₁ B hml hout hv
  obtain ⟨C0, hh, hR, rfl⟩ := ent B hml hst hv
  rw [lg_entry_eq]
  have hl := lv_entry ([.ref (ad 0 0), .int x1, .int x2]) (n := 4) (Nat.le_of_ble_eq_true rfl)
  generalize (lg_sl ([.ref (ad 0 0), .int x1, .int x2]) ++ List.replicate (4 - (lg_sl ([.ref (ad 0 0), .int x1, .int x2])).length) Slot.unset).toArray = ls at hl ⊢
  exact b_X3_straighten_0 C0 hR hout σ x1 x2 _ _ _ hh hl r0 h0

def rmX3_seed : Room := { frames := 7, cells := 1, slots := 6, locals := 112 }
def f_X3_seed_0 (σ : Sg) (x1 : Int32) : Option ((Nat ⊕ Int32) × Sg) :=
  (bx (f_X3_needWithin σ x1 1 2147483646) (fun r1 => (some (.inr ((r1.2.2.1 : Int64).toInt32), (svz r1.2 ((x1 : Int32).toInt64))))) (fun x => some (.inl x.1, x.2)))
set_option maxRecDepth 100000 in
set_option maxHeartbeats 4000000 in
theorem b_X3_seed_0 (C0 : Cx p l s m args meth c cX3_seed 3 RX3 D cy n0) (hR : meth.sig.returnType = (some .int)) (hout : ∀ x ∈ c.exceptionTable.toList, False) (σ : Sg) (x1 : Int32) (H : Heap) (locs : List Loc) (ls : Array Slot) (hh : Hp D cy n0 ad nT nO s σ H locs) (hl : lv_has ls 3 [(0, .ref (ad 0 0)), (1, .int x1)]) : Sm (Qz below args s D cy n0 ad nT nO vI 1 6) (f_X3_seed_0 σ x1) p l e rmX3_seed s m args below meth c H locs 0 0 (F0 m 0 ls []) := by
  unfold f_X3_seed_0
  refine s_iload_n C0 dX3_seed_0 rfl (lv_at hl 1 rfl) ?_
  refine s_iconst (v := 1) C0 dX3_seed_1 (by decide) ?_
  refine s_ldc (v := 2147483646) C0 w243 dX3_seed_2 ?_
  refine s_Sx (As := [.int x1, .int 1, .int 2147483646]) (rest := []) C0 hh (c_X3_needWithin C0.2.2.2.2.2.2 _ x1 1 2147483646) (qc20 C0.1.2.2.2.2 ⟨Nat.le_of_ble_eq_true rfl, Nat.le_of_ble_eq_true rfl⟩) rfl hl.1 rfl (lv_room (Nat.le_of_ble_eq_true rfl)) dX3_seed_4 ⟨Nat.le_of_ble_eq_true rfl, Nat.le_of_ble_eq_true rfl⟩ hout (Nat.le_of_ble_eq_true rfl) (Nat.le_of_ble_eq_true rfl) (fun r1 H locs hor1 hh => ?_)
  refine s_aload_n C0 dX3_seed_7 rfl (lv_at hl 0 rfl) ?_
  refine s_get (v := .long r1.2.2.1) C0 hh (rl_b (by decide)) rfl (T := TX3) (N := 6) rfl hinX3 (by decide) w29 rfl dX3_seed_8 ?_
  refine s_l2i C0 dX3_seed_11 rfl ?_
  refine s_istore_n (lv' := [(2, .int ((r1.2.2.1 : Int64).toInt32)), (0, .ref (ad 0 0)), (1, .int x1)]) C0 dX3_seed_12 rfl hl (by decide) rfl (fun ls hl => ?_)
  refine s_aload_n C0 dX3_seed_13 rfl (lv_at hl 1 rfl) ?_
  refine s_iload_n C0 dX3_seed_14 rfl (lv_at hl 2 rfl) ?_
  refine s_i2l C0 dX3_seed_15 rfl ?_
  refine s_putz C0 hh hinX3 w29 dX3_seed_16 (fun H locs hh => ?_)
  refine s_iload_n C0 dX3_seed_19 rfl (lv_at hl 0 rfl) ?_
  exact s_iretx C0 hh hR rfl (Nat.le_of_ble_eq_true rfl) (Nat.le_of_ble_eq_true rfl) dX3_seed_20
def f_X3_seed (σ : Sg) (x1 : Int32) : Option ((Nat ⊕ Int32) × Sg) := f_X3_seed_0 σ x1
set_option maxRecDepth 100000 in
set_option maxHeartbeats 4000000 in
theorem c_X3_seed (hst : l.stackTraces = false) (σ : Sg) (x1 : Int32) : CtX l yX3_seed (wm yX3_seed cX3_seed 3 (some .int)) rmX3_seed 1 6 vI [.ref (ad 0 0), .int x1] D cy n0 ad nT nO  σ (f_X3_seed σ x1) := by
  intro r0 h0
  refine vx_ofW (cc := cX3_seed) (maxL := 3) (ret := (some .int)) (by decide +kernel) rfl ?_
  intro p e s m args below meth c s₁ B hml hout hv
  obtain ⟨C0, hh, hR, rfl⟩ := ent B hml hst hv
  rw [lg_entry_eq]
  have hl := lv_entry ([.ref (ad 0 0), .int x1]) (n := 3) (Nat.le_of_ble_eq_true rfl)
  generalize (lg_sl ([.ref (ad 0 0), .int x1]) ++ List.replicate (3 - (lg_sl ([.ref (ad 0 0), .int x1])).length) Slot.unset).toArray = ls at hl ⊢
  exact b_X3_seed_0 C0 hR hout σ x1 _ _ _ hh hl r0 h0
theorem qc35 {R : Room} {s : State} {args : Array Value} (ht : ∀ w ∈ allw, w.before args s = true) (hR : (rmX2_bite).frames + 1 ≤ R.frames ∧ 8 + (8 + 11) + (rmX2_bite).locals ≤ R.locals) : CallW R s args RX3 RX2 177 yX2_bite cX2_bite 8 (some .int) (wm yX2_bite cX2_bite 8 (some .int)) rmX2_bite 0 0 2 := cwV 2 ht (gd_of (fun _ h => h) _ (mV w244 w246 w247 w102 w245)) rfl rfl rfl (by decide +kernel) hR
def rmX3_strokes : Room := { frames := 7, cells := 4, slots := 24, locals := 112 }
def f_X3_strokes_0 (σ : Sg) (x1 : Int32) (x2 : Int32) (x3 : Int32) : Option ((Nat ⊕ Int32) × Sg) :=
  (bx (f_X3_needTool σ x1) (fun r1 => (bx (f_X3_needWithin r1.2 x2 1 70) (fun r3 => (bx (f_X3_needWithin r3.2 x3 1 40) (fun r4 => (bx (f_X3_needHard r4.2 r1.1) (fun r5 => ((f_X2_bite r5.2 r1.1 x2 x3).bind (fun r6 => (some (.inr r6.1, r6.2))))) (fun x => some (.inl x.1, x.2)))) (fun x => some (.inl x.1, x.2)))) (fun x => some (.inl x.1, x.2)))) (fun x => some (.inl x.1, x.2)))
set_option maxRecDepth 100000 in
set_option maxHeartbeats 4000000 in
theorem b_X3_strokes_0 (C0 : Cx p l s m args meth c cX3_strokes 5 RX3 D cy n0) (hR : meth.sig.returnType = (some .int)) (hout : ∀ x ∈ c.exceptionTable.toList, False) (σ : Sg) (x1 : Int32) (x2 : Int32) (x3 : Int32) (H : Heap) (locs : List Loc) (ls : Array Slot) (hh : Hp D cy n0 ad nT nO s σ H locs) (hl : lv_has ls 5 [(0, .ref (ad 0 0)), (1, .int x1), (2, .int x2), (3, .int x3)]) : Sm (Qz below args s D cy n0 ad nT nO vI 4 24) (f_X3_strokes_0 σ x1 x2 x3) p l e rmX3_strokes s m args below meth c H locs 0 0 (F0 m 0 ls []) := by
  unfold f_X3_strokes_0
  refine s_aload_n C0 dX3_strokes_0 rfl (lv_at hl 0 rfl) ?_
  refine s_iload_n C0 dX3_strokes_1 rfl (lv_at hl 1 rfl) ?_
  refine s_Vx (As := [.int x1]) (rest := []) C0 hh (c_X3_needTool C0.2.2.2.2.2.2 _ x1) (qc22 C0.1.2.2.2.2 ⟨Nat.le_of_ble_eq_true rfl, Nat.le_of_ble_eq_true rfl⟩) (rl_b (by decide)) rfl rfl rfl hl.1 rfl (lv_room (Nat.le_of_ble_eq_true rfl)) dX3_strokes_2 ⟨Nat.le_of_ble_eq_true rfl, Nat.le_of_ble_eq_true rfl⟩ hout (Nat.le_of_ble_eq_true rfl) (Nat.le_of_ble_eq_true rfl) (fun r1 H locs hor1 hh => ?_)
  have hj2 := nT_lt hor1 hh.2.2.2
  refine s_astore (lv' := [(4, .ref (ad 1 r1.1)), (0, .ref (ad 0 0)), (1, .int x1), (2, .int x2), (3, .int x3)]) C0 dX3_strokes_5 hl (by decide) rfl (fun ls hl => ?_)
  refine s_iload_n C0 dX3_strokes_7 rfl (lv_at hl 3 rfl) ?_
  refine s_iconst (v := 1) C0 dX3_strokes_8 (by decide) ?_
  refine s_bipush (v := 70) C0 dX3_strokes_9 (by decide) ?_
  refine s_Sx (As := [.int x2, .int 1, .int 70]) (rest := []) C0 hh (c_X3_needWithin C0.2.2.2.2.2.2 _ x2 1 70) (qc20 C0.1.2.2.2.2 ⟨Nat.le_of_ble_eq_true rfl, Nat.le_of_ble_eq_true rfl⟩) rfl hl.1 rfl (lv_room (Nat.le_of_ble_eq_true rfl)) dX3_strokes_11 ⟨Nat.le_of_ble_eq_true rfl, Nat.le_of_ble_eq_true rfl⟩ hout (Nat.le_of_ble_eq_true rfl) (Nat.le_of_ble_eq_true rfl) (fun r3 H locs hor3 hh => ?_)
  refine s_iload_n C0 dX3_strokes_14 rfl (lv_at hl 4 rfl) ?_
  refine s_iconst (v := 1) C0 dX3_strokes_15 (by decide) ?_
  refine s_bipush (v := 40) C0 dX3_strokes_16 (by decide) ?_
  refine s_Sx (As := [.int x3, .int 1, .int 40]) (rest := []) C0 hh (c_X3_needWithin C0.2.2.2.2.2.2 _ x3 1 40) (qc20 C0.1.2.2.2.2 ⟨Nat.le_of_ble_eq_true rfl, Nat.le_of_ble_eq_true rfl⟩) rfl hl.1 rfl (lv_room (Nat.le_of_ble_eq_true rfl)) dX3_strokes_18 ⟨Nat.le_of_ble_eq_true rfl, Nat.le_of_ble_eq_true rfl⟩ hout (Nat.le_of_ble_eq_true rfl) (Nat.le_of_ble_eq_true rfl) (fun r4 H locs hor4 hh => ?_)
  refine s_aload C0 dX3_strokes_21 (lv_at hl 0 rfl) ?_
  refine s_Sx (As := [.ref (ad 1 r1.1)]) (rest := []) C0 hh (c_X3_needHard C0.2.2.2.2.2.2 _ r1.1 hj2) (qc34 C0.1.2.2.2.2 ⟨Nat.le_of_ble_eq_true rfl, Nat.le_of_ble_eq_true rfl⟩) rfl hl.1 rfl (lv_room (Nat.le_of_ble_eq_true rfl)) dX3_strokes_23 ⟨Nat.le_of_ble_eq_true rfl, Nat.le_of_ble_eq_true rfl⟩ hout (Nat.le_of_ble_eq_true rfl) (Nat.le_of_ble_eq_true rfl) (fun r5 H locs hor5 hh => ?_)
  refine s_aload C0 dX3_strokes_26 (lv_at hl 0 rfl) ?_
  refine s_iload_n C0 dX3_strokes_28 rfl (lv_at hl 3 rfl) ?_
  refine s_iload_n C0 dX3_strokes_29 rfl (lv_at hl 4 rfl) ?_
  refine s_V (As := [.int x2, .int x3]) (rest := []) C0 hh (c_X2_bite C0.2.2.2.2.2.2 _ r1.1 x2 x3 hj2) (qc35 C0.1.2.2.2.2 ⟨Nat.le_of_ble_eq_true rfl, Nat.le_of_ble_eq_true rfl⟩) (rl_1 hj2) rfl rfl rfl hl.1 rfl (lv_room (Nat.le_of_ble_eq_true rfl)) dX3_strokes_30 ⟨Nat.le_of_ble_eq_true rfl, Nat.le_of_ble_eq_true rfl⟩ (fun r6 H locs hor6 hh => ?_)
  exact s_iretx C0 hh hR rfl (Nat.le_of_ble_eq_true rfl) (Nat.le_of_ble_eq_true rfl) dX3_strokes_33
def f_X3_strokes (σ : Sg) (x1 : Int32) (x2 : Int32) (x3 : Int32) : Option ((Nat ⊕ Int32) × Sg) := f_X3_strokes_0 σ x1 x2 x3
set_option maxRecDepth 100000 in
set_option maxHeartbeats 4000000 in
theorem c_X3_strokes (hst : l.stackTraces = false) (σ : Sg) (x1 : Int32) (x2 : Int32) (x3 : Int32) : CtX l yX3_strokes (wm yX3_strokes cX3_strokes 5 (some .int)) rmX3_strokes 4 24 vI [.ref (ad 0 0), .int x1, .int x2, .int x3] D cy n0 ad nT nO  σ (f_X3_strokes σ x1 x2 x3) := by
  intro r0 h0
  refine vx_ofW (cc := cX3_strokes) (maxL := 5) (ret := (some .int)) (by decide +kernel) rfl ?_
  intro p e s m args below meth c s₁ B hml hout hv
  obtain ⟨C0, hh, hR, rfl⟩ := ent B hml hst hv
  rw [lg_entry_eq]
  have hl := lv_entry ([.ref (ad 0 0), .int x1, .int x2, .int x3]) (n := 5) (Nat.le_of_ble_eq_true rfl)
  generalize (lg_sl ([.ref (ad 0 0), .int x1, .int x2, .int x3]) ++ List.replicate (5 - (lg_sl ([.ref (ad 0 0), .int x1, .int x2, .int x3])).length) Slot.unset).toArray = ls at hl ⊢
  exact b_X3_strokes_0 C0 hR hout σ x1 x2 x3 _ _ _ hh hl r0 h0

def rmX3_chips : Room := { frames := 7, cells := 1, slots := 6, locals := 111 }
def f_X3_chips_0 (σ : Sg) (x1 : Int32) : Option ((Nat ⊕ Int32) × Sg) :=
  (bx (f_X3_needTool σ x1) (fun r1 => (some (.inr (r1.2.1 1 r1.1 10), r1.2))) (fun x => some (.inl x.1, x.2)))
set_option maxRecDepth 100000 in
set_option maxHeartbeats 4000000 in
theorem b_X3_chips_0 (C0 : Cx p l s m args meth c cX3_chips 2 RX3 D cy n0) (hR : meth.sig.returnType = (some .int)) (hout : ∀ x ∈ c.exceptionTable.toList, False) (σ : Sg) (x1 : Int32) (H : Heap) (locs : List Loc) (ls : Array Slot) (hh : Hp D cy n0 ad nT nO s σ H locs) (hl : lv_has ls 2 [(0, .ref (ad 0 0)), (1, .int x1)]) : Sm (Qz below args s D cy n0 ad nT nO vI 1 6) (f_X3_chips_0 σ x1) p l e rmX3_chips s m args below meth c H locs 0 0 (F0 m 0 ls []) := by
  unfold f_X3_chips_0
  refine s_aload_n C0 dX3_chips_0 rfl (lv_at hl 0 rfl) ?_
  refine s_iload_n C0 dX3_chips_1 rfl (lv_at hl 1 rfl) ?_
  refine s_Vx (As := [.int x1]) (rest := []) C0 hh (c_X3_needTool C0.2.2.2.2.2.2 _ x1) (qc22 C0.1.2.2.2.2 ⟨Nat.le_of_ble_eq_true rfl, Nat.le_of_ble_eq_true rfl⟩) (rl_b (by decide)) rfl rfl rfl hl.1 rfl (lv_room (Nat.le_of_ble_eq_true rfl)) dX3_chips_2 ⟨Nat.le_of_ble_eq_true rfl, Nat.le_of_ble_eq_true rfl⟩ hout (Nat.le_of_ble_eq_true rfl) (Nat.le_of_ble_eq_true rfl) (fun r1 H locs hor1 hh => ?_)
  have hj2 := nT_lt hor1 hh.2.2.2
  refine s_getN (v := .int (r1.2.1 1 r1.1 10)) C0 hh (rl_1 hj2) rfl (T := TX2) (N := 14) rfl hinX2 (by decide) w248 rfl dX3_chips_5 ?_
  exact s_iretx C0 hh hR rfl (Nat.le_of_ble_eq_true rfl) (Nat.le_of_ble_eq_true rfl) dX3_chips_8
def f_X3_chips (σ : Sg) (x1 : Int32) : Option ((Nat ⊕ Int32) × Sg) := f_X3_chips_0 σ x1
set_option maxRecDepth 100000 in
set_option maxHeartbeats 4000000 in
theorem c_X3_chips (hst : l.stackTraces = false) (σ : Sg) (x1 : Int32) : CtX l yX3_chips (wm yX3_chips cX3_chips 2 (some .int)) rmX3_chips 1 6 vI [.ref (ad 0 0), .int x1] D cy n0 ad nT nO  σ (f_X3_chips σ x1) := by
  intro r0 h0
  refine vx_ofW (cc := cX3_chips) (maxL := 2) (ret := (some .int)) (by decide +kernel) rfl ?_
  intro p e s m args below meth c s₁ B hml hout hv
  obtain ⟨C0, hh, hR, rfl⟩ := ent B hml hst hv
  rw [lg_entry_eq]
  have hl := lv_entry ([.ref (ad 0 0), .int x1]) (n := 2) (Nat.le_of_ble_eq_true rfl)
  generalize (lg_sl ([.ref (ad 0 0), .int x1]) ++ List.replicate (2 - (lg_sl ([.ref (ad 0 0), .int x1])).length) Slot.unset).toArray = ls at hl ⊢
  exact b_X3_chips_0 C0 hR hout σ x1 _ _ _ hh hl r0 h0

def rmX3_brush : Room := { frames := 7, cells := 1, slots := 6, locals := 111 }
def f_X3_brush_0 (σ : Sg) (x1 : Int32) : Option ((Nat ⊕ Int32) × Sg) :=
  (bx (f_X3_needTool σ x1) (fun r1 => ((f_X2_cool (sv r1.2 1 r1.1 10 0) r1.1).bind (fun r3 => (some (.inr (r1.2.1 1 r1.1 10), r3.2))))) (fun x => some (.inl x.1, x.2)))
set_option maxRecDepth 100000 in
set_option maxHeartbeats 4000000 in
theorem b_X3_brush_0 (C0 : Cx p l s m args meth c cX3_brush 4 RX3 D cy n0) (hR : meth.sig.returnType = (some .int)) (hout : ∀ x ∈ c.exceptionTable.toList, False) (σ : Sg) (x1 : Int32) (H : Heap) (locs : List Loc) (ls : Array Slot) (hh : Hp D cy n0 ad nT nO s σ H locs) (hl : lv_has ls 4 [(0, .ref (ad 0 0)), (1, .int x1)]) : Sm (Qz below args s D cy n0 ad nT nO vI 1 6) (f_X3_brush_0 σ x1) p l e rmX3_brush s m args below meth c H locs 0 0 (F0 m 0 ls []) := by
  unfold f_X3_brush_0
  refine s_aload_n C0 dX3_brush_0 rfl (lv_at hl 0 rfl) ?_
  refine s_iload_n C0 dX3_brush_1 rfl (lv_at hl 1 rfl) ?_
  refine s_Vx (As := [.int x1]) (rest := []) C0 hh (c_X3_needTool C0.2.2.2.2.2.2 _ x1) (qc22 C0.1.2.2.2.2 ⟨Nat.le_of_ble_eq_true rfl, Nat.le_of_ble_eq_true rfl⟩) (rl_b (by decide)) rfl rfl rfl hl.1 rfl (lv_room (Nat.le_of_ble_eq_true rfl)) dX3_brush_2 ⟨Nat.le_of_ble_eq_true rfl, Nat.le_of_ble_eq_true rfl⟩ hout (Nat.le_of_ble_eq_true rfl) (Nat.le_of_ble_eq_true rfl) (fun r1 H locs hor1 hh => ?_)
  have hj2 := nT_lt hor1 hh.2.2.2
  refine s_astore_n (lv' := [(2, .ref (ad 1 r1.1)), (0, .ref (ad 0 0)), (1, .int x1)]) C0 dX3_brush_5 rfl hl (by decide) rfl (fun ls hl => ?_)
  refine s_aload_n C0 dX3_brush_6 rfl (lv_at hl 0 rfl) ?_
  refine s_getN (v := .int (r1.2.1 1 r1.1 10)) C0 hh (rl_1 hj2) rfl (T := TX2) (N := 14) rfl hinX2 (by decide) w248 rfl dX3_brush_7 ?_
  refine s_istore_n (lv' := [(3, .int (r1.2.1 1 r1.1 10)), (2, .ref (ad 1 r1.1)), (0, .ref (ad 0 0)), (1, .int x1)]) C0 dX3_brush_10 rfl hl (by decide) rfl (fun ls hl => ?_)
  refine s_aload_n C0 dX3_brush_11 rfl (lv_at hl 1 rfl) ?_
  refine s_iconst (v := 0) C0 dX3_brush_12 (by decide) ?_
  refine s_putN C0 hh (rl_1 hj2) rfl rfl (T := TX2) (N := 14) rfl hinX2 tyX2 tyX2_ok nmX2 (by decide) w248 rfl (ty := .int) (by decide +kernel) rfl rfl (Nat.le_of_ble_eq_true rfl) (by decide) (by decide) (by decide) dX3_brush_13 (fun H locs hh => ?_)
  refine s_aload_n C0 dX3_brush_16 rfl (lv_at hl 1 rfl) ?_
  refine s_V (As := []) (rest := []) C0 hh (c_X2_cool C0.2.2.2.2.2.2 _ r1.1 hj2) (qc29 C0.1.2.2.2.2 ⟨Nat.le_of_ble_eq_true rfl, Nat.le_of_ble_eq_true rfl⟩) (rl_1 hj2) rfl rfl rfl hl.1 rfl (lv_room (Nat.le_of_ble_eq_true rfl)) dX3_brush_17 ⟨Nat.le_of_ble_eq_true rfl, Nat.le_of_ble_eq_true rfl⟩ (fun r3 H locs hor3 hh => ?_)
  refine s_iload_n C0 dX3_brush_20 rfl (lv_at hl 0 rfl) ?_
  exact s_iretx C0 hh hR rfl (Nat.le_of_ble_eq_true rfl) (Nat.le_of_ble_eq_true rfl) dX3_brush_21
def f_X3_brush (σ : Sg) (x1 : Int32) : Option ((Nat ⊕ Int32) × Sg) := f_X3_brush_0 σ x1
set_option maxRecDepth 100000 in
set_option maxHeartbeats 4000000 in
theorem c_X3_brush (hst : l.stackTraces = false) (σ : Sg) (x1 : Int32) : CtX l yX3_brush (wm yX3_brush cX3_brush 4 (some .int)) rmX3_brush 1 6 vI [.ref (ad 0 0), .int x1] D cy n0 ad nT nO  σ (f_X3_brush σ x1) := by
  intro r0 h0
  refine vx_ofW (cc := cX3_brush) (maxL := 4) (ret := (some .int)) (by decide +kernel) rfl ?_
  intro p e s m args below meth c s₁ B hml hout hv
  obtain ⟨C0, hh, hR, rfl⟩ := ent B hml hst hv
  rw [lg_entry_eq]
  have hl := lv_entry ([.ref (ad 0 0), .int x1]) (n := 4) (Nat.le_of_ble_eq_true rfl)
  generalize (lg_sl ([.ref (ad 0 0), .int x1]) ++ List.replicate (4 - (lg_sl ([.ref (ad 0 0), .int x1])).length) Slot.unset).toArray = ls at hl ⊢
  exact b_X3_brush_0 C0 hR hout σ x1 _ _ _ hh hl r0 h0

def rmX3_work : Room := { frames := 7, cells := 1, slots := 6, locals := 111 }
def f_X3_work_0 (σ : Sg) (x1 : Int32) : Option ((Nat ⊕ Int32) × Sg) :=
  (bx (f_X3_needTool σ x1) (fun r1 => (some (.inr (r1.2.1 1 r1.1 12), r1.2))) (fun x => some (.inl x.1, x.2)))
set_option maxRecDepth 100000 in
set_option maxHeartbeats 4000000 in
theorem b_X3_work_0 (C0 : Cx p l s m args meth c cX3_work 2 RX3 D cy n0) (hR : meth.sig.returnType = (some .int)) (hout : ∀ x ∈ c.exceptionTable.toList, False) (σ : Sg) (x1 : Int32) (H : Heap) (locs : List Loc) (ls : Array Slot) (hh : Hp D cy n0 ad nT nO s σ H locs) (hl : lv_has ls 2 [(0, .ref (ad 0 0)), (1, .int x1)]) : Sm (Qz below args s D cy n0 ad nT nO vI 1 6) (f_X3_work_0 σ x1) p l e rmX3_work s m args below meth c H locs 0 0 (F0 m 0 ls []) := by
  unfold f_X3_work_0
  refine s_aload_n C0 dX3_work_0 rfl (lv_at hl 0 rfl) ?_
  refine s_iload_n C0 dX3_work_1 rfl (lv_at hl 1 rfl) ?_
  refine s_Vx (As := [.int x1]) (rest := []) C0 hh (c_X3_needTool C0.2.2.2.2.2.2 _ x1) (qc22 C0.1.2.2.2.2 ⟨Nat.le_of_ble_eq_true rfl, Nat.le_of_ble_eq_true rfl⟩) (rl_b (by decide)) rfl rfl rfl hl.1 rfl (lv_room (Nat.le_of_ble_eq_true rfl)) dX3_work_2 ⟨Nat.le_of_ble_eq_true rfl, Nat.le_of_ble_eq_true rfl⟩ hout (Nat.le_of_ble_eq_true rfl) (Nat.le_of_ble_eq_true rfl) (fun r1 H locs hor1 hh => ?_)
  have hj2 := nT_lt hor1 hh.2.2.2
  refine s_getN (v := .int (r1.2.1 1 r1.1 12)) C0 hh (rl_1 hj2) rfl (T := TX2) (N := 14) rfl hinX2 (by decide) w249 rfl dX3_work_5 ?_
  exact s_iretx C0 hh hR rfl (Nat.le_of_ble_eq_true rfl) (Nat.le_of_ble_eq_true rfl) dX3_work_8
def f_X3_work (σ : Sg) (x1 : Int32) : Option ((Nat ⊕ Int32) × Sg) := f_X3_work_0 σ x1
set_option maxRecDepth 100000 in
set_option maxHeartbeats 4000000 in
theorem c_X3_work (hst : l.stackTraces = false) (σ : Sg) (x1 : Int32) : CtX l yX3_work (wm yX3_work cX3_work 2 (some .int)) rmX3_work 1 6 vI [.ref (ad 0 0), .int x1] D cy n0 ad nT nO  σ (f_X3_work σ x1) := by
  intro r0 h0
  refine vx_ofW (cc := cX3_work) (maxL := 2) (ret := (some .int)) (by decide +kernel) rfl ?_
  intro p e s m args below meth c s₁ B hml hout hv
  obtain ⟨C0, hh, hR, rfl⟩ := ent B hml hst hv
  rw [lg_entry_eq]
  have hl := lv_entry ([.ref (ad 0 0), .int x1]) (n := 2) (Nat.le_of_ble_eq_true rfl)
  generalize (lg_sl ([.ref (ad 0 0), .int x1]) ++ List.replicate (2 - (lg_sl ([.ref (ad 0 0), .int x1])).length) Slot.unset).toArray = ls at hl ⊢
  exact b_X3_work_0 C0 hR hout σ x1 _ _ _ hh hl r0 h0

def rmX3_soften : Room := { frames := 7, cells := 2, slots := 12, locals := 111 }
def f_X3_soften_0 (σ : Sg) (x1 : Int32) : Option ((Nat ⊕ Int32) × Sg) :=
  (bx (f_X3_needTool σ x1) (fun r1 => (bx (f_X3_needHard r1.2 r1.1) (fun r3 => ((f_X2_cool (sv (sv r3.2 1 r1.1 4 115) 1 r1.1 7 0) r1.1).bind (fun r4 => (some (.inr (r3.2.1 1 r1.1 7), r4.2))))) (fun x => some (.inl x.1, x.2)))) (fun x => some (.inl x.1, x.2)))
set_option maxRecDepth 100000 in
set_option maxHeartbeats 4000000 in
theorem b_X3_soften_0 (C0 : Cx p l s m args meth c cX3_soften 4 RX3 D cy n0) (hR : meth.sig.returnType = (some .int)) (hout : ∀ x ∈ c.exceptionTable.toList, False) (σ : Sg) (x1 : Int32) (H : Heap) (locs : List Loc) (ls : Array Slot) (hh : Hp D cy n0 ad nT nO s σ H locs) (hl : lv_has ls 4 [(0, .ref (ad 0 0)), (1, .int x1)]) : Sm (Qz below args s D cy n0 ad nT nO vI 2 12) (f_X3_soften_0 σ x1) p l e rmX3_soften s m args below meth c H locs 0 0 (F0 m 0 ls []) := by
  unfold f_X3_soften_0
  refine s_aload_n C0 dX3_soften_0 rfl (lv_at hl 0 rfl) ?_
  refine s_iload_n C0 dX3_soften_1 rfl (lv_at hl 1 rfl) ?_
  refine s_Vx (As := [.int x1]) (rest := []) C0 hh (c_X3_needTool C0.2.2.2.2.2.2 _ x1) (qc22 C0.1.2.2.2.2 ⟨Nat.le_of_ble_eq_true rfl, Nat.le_of_ble_eq_true rfl⟩) (rl_b (by decide)) rfl rfl rfl hl.1 rfl (lv_room (Nat.le_of_ble_eq_true rfl)) dX3_soften_2 ⟨Nat.le_of_ble_eq_true rfl, Nat.le_of_ble_eq_true rfl⟩ hout (Nat.le_of_ble_eq_true rfl) (Nat.le_of_ble_eq_true rfl) (fun r1 H locs hor1 hh => ?_)
  have hj2 := nT_lt hor1 hh.2.2.2
  refine s_astore_n (lv' := [(2, .ref (ad 1 r1.1)), (0, .ref (ad 0 0)), (1, .int x1)]) C0 dX3_soften_5 rfl hl (by decide) rfl (fun ls hl => ?_)
  refine s_aload_n C0 dX3_soften_6 rfl (lv_at hl 0 rfl) ?_
  refine s_Sx (As := [.ref (ad 1 r1.1)]) (rest := []) C0 hh (c_X3_needHard C0.2.2.2.2.2.2 _ r1.1 hj2) (qc34 C0.1.2.2.2.2 ⟨Nat.le_of_ble_eq_true rfl, Nat.le_of_ble_eq_true rfl⟩) rfl hl.1 rfl (lv_room (Nat.le_of_ble_eq_true rfl)) dX3_soften_7 ⟨Nat.le_of_ble_eq_true rfl, Nat.le_of_ble_eq_true rfl⟩ hout (Nat.le_of_ble_eq_true rfl) (Nat.le_of_ble_eq_true rfl) (fun r3 H locs hor3 hh => ?_)
  refine s_aload_n C0 dX3_soften_10 rfl (lv_at hl 0 rfl) ?_
  refine s_getN (v := .int (r3.2.1 1 r1.1 7)) C0 hh (rl_1 hj2) rfl (T := TX2) (N := 14) rfl hinX2 (by decide) w236 rfl dX3_soften_11 ?_
  refine s_istore_n (lv' := [(3, .int (r3.2.1 1 r1.1 7)), (2, .ref (ad 1 r1.1)), (0, .ref (ad 0 0)), (1, .int x1)]) C0 dX3_soften_14 rfl hl (by decide) rfl (fun ls hl => ?_)
  refine s_aload_n C0 dX3_soften_15 rfl (lv_at hl 1 rfl) ?_
  refine s_bipush (v := 115) C0 dX3_soften_16 (by decide) ?_
  refine s_putN C0 hh (rl_1 hj2) rfl rfl (T := TX2) (N := 14) rfl hinX2 tyX2 tyX2_ok nmX2 (by decide) w161 rfl (ty := .char) (by decide +kernel) rfl rfl (Nat.le_of_ble_eq_true rfl) (by decide) (by decide) (by decide) dX3_soften_18 (fun H locs hh => ?_)
  refine s_aload_n C0 dX3_soften_21 rfl (lv_at hl 1 rfl) ?_
  refine s_iconst (v := 0) C0 dX3_soften_22 (by decide) ?_
  refine s_putN C0 hh (rl_1 hj2) rfl rfl (T := TX2) (N := 14) rfl hinX2 tyX2 tyX2_ok nmX2 (by decide) w236 rfl (ty := .int) (by decide +kernel) rfl rfl (Nat.le_of_ble_eq_true rfl) (by decide) (by decide) (by decide) dX3_soften_23 (fun H locs hh => ?_)
  refine s_aload_n C0 dX3_soften_26 rfl (lv_at hl 1 rfl) ?_
  refine s_V (As := []) (rest := []) C0 hh (c_X2_cool C0.2.2.2.2.2.2 _ r1.1 hj2) (qc29 C0.1.2.2.2.2 ⟨Nat.le_of_ble_eq_true rfl, Nat.le_of_ble_eq_true rfl⟩) (rl_1 hj2) rfl rfl rfl hl.1 rfl (lv_room (Nat.le_of_ble_eq_true rfl)) dX3_soften_27 ⟨Nat.le_of_ble_eq_true rfl, Nat.le_of_ble_eq_true rfl⟩ (fun r4 H locs hor4 hh => ?_)
  refine s_iload_n C0 dX3_soften_30 rfl (lv_at hl 0 rfl) ?_
  exact s_iretx C0 hh hR rfl (Nat.le_of_ble_eq_true rfl) (Nat.le_of_ble_eq_true rfl) dX3_soften_31
def f_X3_soften (σ : Sg) (x1 : Int32) : Option ((Nat ⊕ Int32) × Sg) := f_X3_soften_0 σ x1
set_option maxRecDepth 100000 in
set_option maxHeartbeats 4000000 in
theorem c_X3_soften (hst : l.stackTraces = false) (σ : Sg) (x1 : Int32) : CtX l yX3_soften (wm yX3_soften cX3_soften 4 (some .int)) rmX3_soften 2 12 vI [.ref (ad 0 0), .int x1] D cy n0 ad nT nO  σ (f_X3_soften σ x1) := by
  intro r0 h0
  refine vx_ofW (cc := cX3_soften) (maxL := 4) (ret := (some .int)) (by decide +kernel) rfl ?_
  intro p e s m args below meth c s₁ B hml hout hv
  obtain ⟨C0, hh, hR, rfl⟩ := ent B hml hst hv
  rw [lg_entry_eq]
  have hl := lv_entry ([.ref (ad 0 0), .int x1]) (n := 4) (Nat.le_of_ble_eq_true rfl)
  generalize (lg_sl ([.ref (ad 0 0), .int x1]) ++ List.replicate (4 - (lg_sl ([.ref (ad 0 0), .int x1])).length) Slot.unset).toArray = ls at hl ⊢
  exact b_X3_soften_0 C0 hR hout σ x1 _ _ _ hh hl r0 h0
theorem qc36 {R : Room} {s : State} {args : Array Value} (ht : ∀ w ∈ allw, w.before args s = true) (hR : (rmX2_groundThickness).frames + 1 ≤ R.frames ∧ 8 + (1 + 11) + (rmX2_groundThickness).locals ≤ R.locals) : CallW R s args RX3 RX2 186 yX2_groundThickness cX2_groundThickness 1 (some .int) (wm yX2_groundThickness cX2_groundThickness 1 (some .int)) rmX2_groundThickness 0 0 0 := cwV 0 ht (gd_of (fun _ h => h) _ (mV w250 w103 w104 w102 w101)) rfl rfl rfl (by decide +kernel) hR
theorem qc37 {R : Room} {s : State} {args : Array Value} (ht : ∀ w ∈ allw, w.before args s = true) (hR : (rmX2_takeTeethOff).frames + 1 ≤ R.frames ∧ 8 + (1 + 11) + (rmX2_takeTeethOff).locals ≤ R.locals) : CallW R s args RX3 RX2 191 yX2_takeTeethOff cX2_takeTeethOff 1 none (wm yX2_takeTeethOff cX2_takeTeethOff 1 none) rmX2_takeTeethOff 0 0 0 := cwV 0 ht (gd_of (fun _ h => h) _ (mV w251 w253 w254 w102 w252)) rfl rfl rfl (by decide +kernel) hR
def rmX3_grind : Room := { frames := 7, cells := 2, slots := 12, locals := 111 }
def f_X3_grind_0 (σ : Sg) (x1 : Int32) : Option ((Nat ⊕ Int32) × Sg) :=
  (bx (f_X3_needTool σ x1) (fun r1 => (if ((r1.2.1 1 r1.1 4) : Int32) = (115 : Int32) then (if ((r1.2.1 2 r1.1 3) : Int32) = (0 : Int32) then (some (.inl 4, r1.2)) else ((f_X2_groundThickness r1.2 r1.1).bind (fun r3 => (if (20 : Int32) ≤ (r3.1 : Int32) then ((f_X2_takeTeethOff r3.2 r1.1).bind (fun r4 => (some (.inr (r4.2.1 1 r1.1 3), r4.2)))) else (some (.inl 4, r3.2)))))) else (some (.inl 4, r1.2)))) (fun x => some (.inl x.1, x.2)))
set_option maxRecDepth 100000 in
set_option maxHeartbeats 4000000 in
theorem b_X3_grind_0 (C0 : Cx p l s m args meth c cX3_grind 3 RX3 D cy n0) (hR : meth.sig.returnType = (some .int)) (hout : ∀ x ∈ c.exceptionTable.toList, False) (σ : Sg) (x1 : Int32) (H : Heap) (locs : List Loc) (ls : Array Slot) (hh : Hp D cy n0 ad nT nO s σ H locs) (hl : lv_has ls 3 [(0, .ref (ad 0 0)), (1, .int x1)]) : Sm (Qz below args s D cy n0 ad nT nO vI 2 12) (f_X3_grind_0 σ x1) p l e rmX3_grind s m args below meth c H locs 0 0 (F0 m 0 ls []) := by
  unfold f_X3_grind_0
  refine s_aload_n C0 dX3_grind_0 rfl (lv_at hl 0 rfl) ?_
  refine s_iload_n C0 dX3_grind_1 rfl (lv_at hl 1 rfl) ?_
  refine s_Vx (As := [.int x1]) (rest := []) C0 hh (c_X3_needTool C0.2.2.2.2.2.2 _ x1) (qc22 C0.1.2.2.2.2 ⟨Nat.le_of_ble_eq_true rfl, Nat.le_of_ble_eq_true rfl⟩) (rl_b (by decide)) rfl rfl rfl hl.1 rfl (lv_room (Nat.le_of_ble_eq_true rfl)) dX3_grind_2 ⟨Nat.le_of_ble_eq_true rfl, Nat.le_of_ble_eq_true rfl⟩ hout (Nat.le_of_ble_eq_true rfl) (Nat.le_of_ble_eq_true rfl) (fun r1 H locs hor1 hh => ?_)
  have hj2 := nT_lt hor1 hh.2.2.2
  refine s_astore_n (lv' := [(2, .ref (ad 1 r1.1)), (0, .ref (ad 0 0)), (1, .int x1)]) C0 dX3_grind_5 rfl hl (by decide) rfl (fun ls hl => ?_)
  refine s_aload_n C0 dX3_grind_6 rfl (lv_at hl 0 rfl) ?_
  refine s_getN (v := .int (r1.2.1 1 r1.1 4)) C0 hh (rl_1 hj2) rfl (T := TX2) (N := 14) rfl hinX2 (by decide) w161 rfl dX3_grind_7 ?_
  refine s_bipush (v := 115) C0 dX3_grind_10 (by decide) ?_
  refine s_icmp_ne (tgt := 34) C0 dX3_grind_12 (by decide) (fun _ => ?_) (fun _ => ?_)
  · exact s_thr (text := "not soft, without teeth or too thin") C0 hh ax164 w162 w163 (by decide) hl.1 dX3_grind_34 dX3_grind_37 dX3_grind_38 dX3_grind_40 dX3_grind_43 hout (Nat.le_of_ble_eq_true rfl) (Nat.le_of_ble_eq_true rfl) (Nat.le_of_ble_eq_true rfl) (Nat.le_of_ble_eq_true rfl) (Nat.le_of_ble_eq_true rfl) (Nat.le_of_ble_eq_true rfl)
  · refine s_aload_n C0 dX3_grind_15 rfl (lv_at hl 0 rfl) ?_
    refine s_getN (v := .ref (ad 2 r1.1)) C0 hh (rl_1 hj2) rfl (T := TX2) (N := 14) rfl hinX2 (by decide) w199 rfl dX3_grind_16 ?_
    refine s_getN (v := .int (r1.2.1 2 r1.1 3)) C0 hh (rl_2 (Or.inl hj2)) rfl (T := TX1) (N := 8) rfl hinX1 (by decide) w160 rfl dX3_grind_19 ?_
    refine s_if_eq (tgt := 34) C0 dX3_grind_22 (by decide) (fun _ => ?_) (fun _ => ?_)
    · exact s_thr (text := "not soft, without teeth or too thin") C0 hh ax164 w162 w163 (by decide) hl.1 dX3_grind_34 dX3_grind_37 dX3_grind_38 dX3_grind_40 dX3_grind_43 hout (Nat.le_of_ble_eq_true rfl) (Nat.le_of_ble_eq_true rfl) (Nat.le_of_ble_eq_true rfl) (Nat.le_of_ble_eq_true rfl) (Nat.le_of_ble_eq_true rfl) (Nat.le_of_ble_eq_true rfl)
    · refine s_aload_n C0 dX3_grind_25 rfl (lv_at hl 0 rfl) ?_
      refine s_V (As := []) (rest := []) C0 hh (c_X2_groundThickness C0.2.2.2.2.2.2 _ r1.1 hj2) (qc36 C0.1.2.2.2.2 ⟨Nat.le_of_ble_eq_true rfl, Nat.le_of_ble_eq_true rfl⟩) (rl_1 hj2) rfl rfl rfl hl.1 rfl (lv_room (Nat.le_of_ble_eq_true rfl)) dX3_grind_26 ⟨Nat.le_of_ble_eq_true rfl, Nat.le_of_ble_eq_true rfl⟩ (fun r3 H locs hor3 hh => ?_)
      refine s_bipush (v := 20) C0 dX3_grind_29 (by decide) ?_
      refine s_icmp_ge (tgt := 44) C0 dX3_grind_31 (by decide) (fun _ => ?_) (fun _ => ?_)
      · refine s_aload_n C0 dX3_grind_44 rfl (lv_at hl 0 rfl) ?_
        refine s_V (As := []) (rest := []) C0 hh (c_X2_takeTeethOff C0.2.2.2.2.2.2 _ r1.1 hj2) (qc37 C0.1.2.2.2.2 ⟨Nat.le_of_ble_eq_true rfl, Nat.le_of_ble_eq_true rfl⟩) (rl_1 hj2) rfl rfl rfl hl.1 rfl (lv_room (Nat.le_of_ble_eq_true rfl)) dX3_grind_45 ⟨Nat.le_of_ble_eq_true rfl, Nat.le_of_ble_eq_true rfl⟩ (fun r4 H locs hor4 hh => ?_)
        refine s_aload_n C0 dX3_grind_48 rfl (lv_at hl 0 rfl) ?_
        refine s_getN (v := .int (r4.2.1 1 r1.1 3)) C0 hh (rl_1 hj2) rfl (T := TX2) (N := 14) rfl hinX2 (by decide) w200 rfl dX3_grind_49 ?_
        exact s_iretx C0 hh hR rfl (Nat.le_of_ble_eq_true rfl) (Nat.le_of_ble_eq_true rfl) dX3_grind_52
      · exact s_thr (text := "not soft, without teeth or too thin") C0 hh ax164 w162 w163 (by decide) hl.1 dX3_grind_34 dX3_grind_37 dX3_grind_38 dX3_grind_40 dX3_grind_43 hout (Nat.le_of_ble_eq_true rfl) (Nat.le_of_ble_eq_true rfl) (Nat.le_of_ble_eq_true rfl) (Nat.le_of_ble_eq_true rfl) (Nat.le_of_ble_eq_true rfl) (Nat.le_of_ble_eq_true rfl)
def f_X3_grind (σ : Sg) (x1 : Int32) : Option ((Nat ⊕ Int32) × Sg) := f_X3_grind_0 σ x1
set_option maxRecDepth 100000 in
set_option maxHeartbeats 4000000 in
theorem c_X3_grind (hst : l.stackTraces = false) (σ : Sg) (x1 : Int32) : CtX l yX3_grind (wm yX3_grind cX3_grind 3 (some .int)) rmX3_grind 2 12 vI [.ref (ad 0 0), .int x1] D cy n0 ad nT nO  σ (f_X3_grind σ x1) := by
  intro r0 h0
  refine vx_ofW (cc := cX3_grind) (maxL := 3) (ret := (some .int)) (by decide +kernel) rfl ?_
  intro p e s m args below meth c s₁ B hml hout hv
  obtain ⟨C0, hh, hR, rfl⟩ := ent B hml hst hv
  rw [lg_entry_eq]
  have hl := lv_entry ([.ref (ad 0 0), .int x1]) (n := 3) (Nat.le_of_ble_eq_true rfl)
  generalize (lg_sl ([.ref (ad 0 0), .int x1]) ++ List.replicate (3 - (lg_sl ([.ref (ad 0 0), .int x1])).length) Slot.unset).toArray = ls at hl ⊢
  exact b_X3_grind_0 C0 hR hout σ x1 _ _ _ hh hl r0 h0

def rmX3_recuts : Room := { frames := 7, cells := 1, slots := 6, locals := 111 }
def f_X3_recuts_0 (σ : Sg) (x1 : Int32) : Option ((Nat ⊕ Int32) × Sg) :=
  (bx (f_X3_needTool σ x1) (fun r1 => (some (.inr (r1.2.1 1 r1.1 13), r1.2))) (fun x => some (.inl x.1, x.2)))
set_option maxRecDepth 100000 in
set_option maxHeartbeats 4000000 in
theorem b_X3_recuts_0 (C0 : Cx p l s m args meth c cX3_recuts 2 RX3 D cy n0) (hR : meth.sig.returnType = (some .int)) (hout : ∀ x ∈ c.exceptionTable.toList, False) (σ : Sg) (x1 : Int32) (H : Heap) (locs : List Loc) (ls : Array Slot) (hh : Hp D cy n0 ad nT nO s σ H locs) (hl : lv_has ls 2 [(0, .ref (ad 0 0)), (1, .int x1)]) : Sm (Qz below args s D cy n0 ad nT nO vI 1 6) (f_X3_recuts_0 σ x1) p l e rmX3_recuts s m args below meth c H locs 0 0 (F0 m 0 ls []) := by
  unfold f_X3_recuts_0
  refine s_aload_n C0 dX3_recuts_0 rfl (lv_at hl 0 rfl) ?_
  refine s_iload_n C0 dX3_recuts_1 rfl (lv_at hl 1 rfl) ?_
  refine s_Vx (As := [.int x1]) (rest := []) C0 hh (c_X3_needTool C0.2.2.2.2.2.2 _ x1) (qc22 C0.1.2.2.2.2 ⟨Nat.le_of_ble_eq_true rfl, Nat.le_of_ble_eq_true rfl⟩) (rl_b (by decide)) rfl rfl rfl hl.1 rfl (lv_room (Nat.le_of_ble_eq_true rfl)) dX3_recuts_2 ⟨Nat.le_of_ble_eq_true rfl, Nat.le_of_ble_eq_true rfl⟩ hout (Nat.le_of_ble_eq_true rfl) (Nat.le_of_ble_eq_true rfl) (fun r1 H locs hor1 hh => ?_)
  have hj2 := nT_lt hor1 hh.2.2.2
  refine s_getN (v := .int (r1.2.1 1 r1.1 13)) C0 hh (rl_1 hj2) rfl (T := TX2) (N := 14) rfl hinX2 (by decide) w255 rfl dX3_recuts_5 ?_
  exact s_iretx C0 hh hR rfl (Nat.le_of_ble_eq_true rfl) (Nat.le_of_ble_eq_true rfl) dX3_recuts_8
def f_X3_recuts (σ : Sg) (x1 : Int32) : Option ((Nat ⊕ Int32) × Sg) := f_X3_recuts_0 σ x1
set_option maxRecDepth 100000 in
set_option maxHeartbeats 4000000 in
theorem c_X3_recuts (hst : l.stackTraces = false) (σ : Sg) (x1 : Int32) : CtX l yX3_recuts (wm yX3_recuts cX3_recuts 2 (some .int)) rmX3_recuts 1 6 vI [.ref (ad 0 0), .int x1] D cy n0 ad nT nO  σ (f_X3_recuts σ x1) := by
  intro r0 h0
  refine vx_ofW (cc := cX3_recuts) (maxL := 2) (ret := (some .int)) (by decide +kernel) rfl ?_
  intro p e s m args below meth c s₁ B hml hout hv
  obtain ⟨C0, hh, hR, rfl⟩ := ent B hml hst hv
  rw [lg_entry_eq]
  have hl := lv_entry ([.ref (ad 0 0), .int x1]) (n := 2) (Nat.le_of_ble_eq_true rfl)
  generalize (lg_sl ([.ref (ad 0 0), .int x1]) ++ List.replicate (2 - (lg_sl ([.ref (ad 0 0), .int x1])).length) Slot.unset).toArray = ls at hl ⊢
  exact b_X3_recuts_0 C0 hR hout σ x1 _ _ _ hh hl r0 h0

def rmX3_recutsLeft : Room := { frames := 7, cells := 2, slots := 12, locals := 111 }
def f_X3_recutsLeft_38 (σ : Sg) (x2 : Int32) (i3 : Nat) (x4 : Int32) (x5 : Int32) : Option ((Nat ⊕ Int32) × Sg) :=
  ((f_X3_depthOf σ x2 (σ.1 1 i3 0)).bind (fun r4 => (if (x4 : Int32) < (20 : Int32) then (some (.inr 0, r4.2)) else (if (0 : Int32) < ((r4.1 + 2) : Int32) then (if ((r4.1 + 2) : Int32) = 0 then none else (some (.inr (x5 + ((x4 - 20) / (r4.1 + 2))), r4.2))) else (some (.inr 0, r4.2))))))
set_option maxRecDepth 100000 in
set_option maxHeartbeats 4000000 in
theorem b_X3_recutsLeft_38 (C0 : Cx p l s m args meth c cX3_recutsLeft 7 RX3 D cy n0) (hR : meth.sig.returnType = (some .int)) (hout : ∀ x ∈ c.exceptionTable.toList, False) (σ : Sg) (x2 : Int32) (i3 : Nat) (x4 : Int32) (x5 : Int32) (hi3 : i3 < nT) (H : Heap) (locs : List Loc) (ls : Array Slot) (hh : Hp D cy n0 ad nT nO s σ H locs) (hl : lv_has ls 7 [(2, .int x2), (3, .ref (ad 1 i3)), (4, .int x4), (5, .int x5)]) : Sm (Qz below args s D cy n0 ad nT nO vI 2 12) (f_X3_recutsLeft_38 σ x2 i3 x4 x5) p l e rmX3_recutsLeft s m args below meth c H locs 2 12 (F0 m 38 ls []) := by
  unfold f_X3_recutsLeft_38
  refine s_iload_n C0 dX3_recutsLeft_38 rfl (lv_at hl 0 rfl) ?_
  refine s_aload_n C0 dX3_recutsLeft_39 rfl (lv_at hl 1 rfl) ?_
  refine s_getN (v := .int (σ.1 1 i3 0)) C0 hh (rl_1 hi3) rfl (T := TX2) (N := 14) rfl hinX2 (by decide) w195 rfl dX3_recutsLeft_40 ?_
  refine s_S (As := [.int x2, .int (σ.1 1 i3 0)]) (rest := []) C0 hh (c_X3_depthOf C0.2.2.2.2.2.2 _ x2 (σ.1 1 i3 0)) (qc23 C0.1.2.2.2.2 ⟨Nat.le_of_ble_eq_true rfl, Nat.le_of_ble_eq_true rfl⟩) rfl hl.1 rfl (lv_room (Nat.le_of_ble_eq_true rfl)) dX3_recutsLeft_43 ⟨Nat.le_of_ble_eq_true rfl, Nat.le_of_ble_eq_true rfl⟩ (fun r4 H locs hor4 hh => ?_)
  refine s_iconst (v := 2) C0 dX3_recutsLeft_46 (by decide) ?_
  refine s_iadd C0 dX3_recutsLeft_47 ?_
  refine s_istore (lv' := [(6, .int (r4.1 + 2)), (2, .int x2), (3, .ref (ad 1 i3)), (4, .int x4), (5, .int x5)]) C0 dX3_recutsLeft_48 hl (by decide) rfl (fun ls hl => ?_)
  refine s_iload C0 dX3_recutsLeft_50 (lv_at hl 3 rfl) ?_
  refine s_bipush (v := 20) C0 dX3_recutsLeft_52 (by decide) ?_
  refine s_icmp_lt (tgt := 62) C0 dX3_recutsLeft_54 (by decide) (fun _ => ?_) (fun _ => ?_)
  · refine s_iconst (v := 0) C0 dX3_recutsLeft_62 (by decide) ?_
    exact s_iretx C0 hh hR rfl (Nat.le_of_ble_eq_true rfl) (Nat.le_of_ble_eq_true rfl) dX3_recutsLeft_63
  · refine s_iload C0 dX3_recutsLeft_57 (lv_at hl 0 rfl) ?_
    refine s_if_gt (tgt := 64) C0 dX3_recutsLeft_59 (by decide) (fun _ => ?_) (fun _ => ?_)
    · refine s_iload C0 dX3_recutsLeft_64 (lv_at hl 4 rfl) ?_
      refine s_iload C0 dX3_recutsLeft_66 (lv_at hl 3 rfl) ?_
      refine s_bipush (v := 20) C0 dX3_recutsLeft_68 (by decide) ?_
      refine s_isub C0 dX3_recutsLeft_70 ?_
      refine s_iload C0 dX3_recutsLeft_71 (lv_at hl 0 rfl) ?_
      refine s_idiv C0 dX3_recutsLeft_73 ?_
      refine s_iadd C0 dX3_recutsLeft_74 ?_
      exact s_iretx C0 hh hR rfl (Nat.le_of_ble_eq_true rfl) (Nat.le_of_ble_eq_true rfl) dX3_recutsLeft_75
    · refine s_iconst (v := 0) C0 dX3_recutsLeft_62 (by decide) ?_
      exact s_iretx C0 hh hR rfl (Nat.le_of_ble_eq_true rfl) (Nat.le_of_ble_eq_true rfl) dX3_recutsLeft_63
def f_X3_recutsLeft_0 (σ : Sg) (x1 : Int32) (x2 : Int32) : Option ((Nat ⊕ Int32) × Sg) :=
  (bx (f_X3_needTool σ x1) (fun r1 => (bx (f_X3_needCut r1.2 x2) (fun r3 => (if ((r3.2.1 2 r1.1 3) : Int32) ≤ (0 : Int32) then (f_X3_recutsLeft_38 r3.2 x2 r1.1 (r3.2.1 1 r1.1 3) 0) else ((f_X2_groundThickness r3.2 r1.1).bind (fun r5 => (f_X3_recutsLeft_38 r5.2 x2 r1.1 r5.1 1))))) (fun x => some (.inl x.1, x.2)))) (fun x => some (.inl x.1, x.2)))
set_option maxRecDepth 100000 in
set_option maxHeartbeats 4000000 in
theorem b_X3_recutsLeft_0 (C0 : Cx p l s m args meth c cX3_recutsLeft 7 RX3 D cy n0) (hR : meth.sig.returnType = (some .int)) (hout : ∀ x ∈ c.exceptionTable.toList, False) (σ : Sg) (x1 : Int32) (x2 : Int32) (H : Heap) (locs : List Loc) (ls : Array Slot) (hh : Hp D cy n0 ad nT nO s σ H locs) (hl : lv_has ls 7 [(0, .ref (ad 0 0)), (1, .int x1), (2, .int x2)]) : Sm (Qz below args s D cy n0 ad nT nO vI 2 12) (f_X3_recutsLeft_0 σ x1 x2) p l e rmX3_recutsLeft s m args below meth c H locs 0 0 (F0 m 0 ls []) := by
  unfold f_X3_recutsLeft_0
  refine s_aload_n C0 dX3_recutsLeft_0 rfl (lv_at hl 0 rfl) ?_
  refine s_iload_n C0 dX3_recutsLeft_1 rfl (lv_at hl 1 rfl) ?_
  refine s_Vx (As := [.int x1]) (rest := []) C0 hh (c_X3_needTool C0.2.2.2.2.2.2 _ x1) (qc22 C0.1.2.2.2.2 ⟨Nat.le_of_ble_eq_true rfl, Nat.le_of_ble_eq_true rfl⟩) (rl_b (by decide)) rfl rfl rfl hl.1 rfl (lv_room (Nat.le_of_ble_eq_true rfl)) dX3_recutsLeft_2 ⟨Nat.le_of_ble_eq_true rfl, Nat.le_of_ble_eq_true rfl⟩ hout (Nat.le_of_ble_eq_true rfl) (Nat.le_of_ble_eq_true rfl) (fun r1 H locs hor1 hh => ?_)
  have hj2 := nT_lt hor1 hh.2.2.2
  refine s_astore_n (lv' := [(3, .ref (ad 1 r1.1)), (0, .ref (ad 0 0)), (1, .int x1), (2, .int x2)]) C0 dX3_recutsLeft_5 rfl hl (by decide) rfl (fun ls hl => ?_)
  refine s_iload_n C0 dX3_recutsLeft_6 rfl (lv_at hl 3 rfl) ?_
  refine s_Sx (As := [.int x2]) (rest := []) C0 hh (c_X3_needCut C0.2.2.2.2.2.2 _ x2) (qc21 C0.1.2.2.2.2 ⟨Nat.le_of_ble_eq_true rfl, Nat.le_of_ble_eq_true rfl⟩) rfl hl.1 rfl (lv_room (Nat.le_of_ble_eq_true rfl)) dX3_recutsLeft_7 ⟨Nat.le_of_ble_eq_true rfl, Nat.le_of_ble_eq_true rfl⟩ hout (Nat.le_of_ble_eq_true rfl) (Nat.le_of_ble_eq_true rfl) (fun r3 H locs hor3 hh => ?_)
  refine s_aload_n C0 dX3_recutsLeft_10 rfl (lv_at hl 0 rfl) ?_
  refine s_getN (v := .int (r3.2.1 1 r1.1 3)) C0 hh (rl_1 hj2) rfl (T := TX2) (N := 14) rfl hinX2 (by decide) w200 rfl dX3_recutsLeft_11 ?_
  refine s_istore (lv' := [(4, .int (r3.2.1 1 r1.1 3)), (3, .ref (ad 1 r1.1)), (0, .ref (ad 0 0)), (1, .int x1), (2, .int x2)]) C0 dX3_recutsLeft_14 hl (by decide) rfl (fun ls hl => ?_)
  refine s_iconst (v := 0) C0 dX3_recutsLeft_16 (by decide) ?_
  refine s_istore (lv' := [(5, .int 0), (4, .int (r3.2.1 1 r1.1 3)), (3, .ref (ad 1 r1.1)), (0, .ref (ad 0 0)), (1, .int x1), (2, .int x2)]) C0 dX3_recutsLeft_17 hl (by decide) rfl (fun ls hl => ?_)
  refine s_aload_n C0 dX3_recutsLeft_19 rfl (lv_at hl 2 rfl) ?_
  refine s_getN (v := .ref (ad 2 r1.1)) C0 hh (rl_1 hj2) rfl (T := TX2) (N := 14) rfl hinX2 (by decide) w199 rfl dX3_recutsLeft_20 ?_
  refine s_getN (v := .int (r3.2.1 2 r1.1 3)) C0 hh (rl_2 (Or.inl hj2)) rfl (T := TX1) (N := 8) rfl hinX1 (by decide) w160 rfl dX3_recutsLeft_23 ?_
  refine s_if_le (tgt := 38) C0 dX3_recutsLeft_26 (by decide) (fun _ => ?_) (fun _ => ?_)
  · exact b_X3_recutsLeft_38 C0 hR hout r3.2 x2 r1.1 (r3.2.1 1 r1.1 3) 0 hj2 _ _ _ hh (lv_sub hl [5, 2, 1, 0] rfl)
  · refine s_aload_n C0 dX3_recutsLeft_29 rfl (lv_at hl 2 rfl) ?_
    refine s_V (As := []) (rest := []) C0 hh (c_X2_groundThickness C0.2.2.2.2.2.2 _ r1.1 hj2) (qc36 C0.1.2.2.2.2 ⟨Nat.le_of_ble_eq_true rfl, Nat.le_of_ble_eq_true rfl⟩) (rl_1 hj2) rfl rfl rfl hl.1 rfl (lv_room (Nat.le_of_ble_eq_true rfl)) dX3_recutsLeft_30 ⟨Nat.le_of_ble_eq_true rfl, Nat.le_of_ble_eq_true rfl⟩ (fun r5 H locs hor5 hh => ?_)
    refine s_istore (lv' := [(4, .int r5.1), (5, .int 0), (3, .ref (ad 1 r1.1)), (0, .ref (ad 0 0)), (1, .int x1), (2, .int x2)]) C0 dX3_recutsLeft_33 hl (by decide) rfl (fun ls hl => ?_)
    refine s_iconst (v := 1) C0 dX3_recutsLeft_35 (by decide) ?_
    refine s_istore (lv' := [(5, .int 1), (4, .int r5.1), (3, .ref (ad 1 r1.1)), (0, .ref (ad 0 0)), (1, .int x1), (2, .int x2)]) C0 dX3_recutsLeft_36 hl (by decide) rfl (fun ls hl => ?_)
    exact b_X3_recutsLeft_38 C0 hR hout r5.2 x2 r1.1 r5.1 1 hj2 _ _ _ hh (lv_sub hl [5, 2, 1, 0] rfl)
def f_X3_recutsLeft (σ : Sg) (x1 : Int32) (x2 : Int32) : Option ((Nat ⊕ Int32) × Sg) := f_X3_recutsLeft_0 σ x1 x2
set_option maxRecDepth 100000 in
set_option maxHeartbeats 4000000 in
theorem c_X3_recutsLeft (hst : l.stackTraces = false) (σ : Sg) (x1 : Int32) (x2 : Int32) : CtX l yX3_recutsLeft (wm yX3_recutsLeft cX3_recutsLeft 7 (some .int)) rmX3_recutsLeft 2 12 vI [.ref (ad 0 0), .int x1, .int x2] D cy n0 ad nT nO  σ (f_X3_recutsLeft σ x1 x2) := by
  intro r0 h0
  refine vx_ofW (cc := cX3_recutsLeft) (maxL := 7) (ret := (some .int)) (by decide +kernel) rfl ?_
  intro p e s m args below meth c s₁ B hml hout hv
  obtain ⟨C0, hh, hR, rfl⟩ := ent B hml hst hv
  rw [lg_entry_eq]
  have hl := lv_entry ([.ref (ad 0 0), .int x1, .int x2]) (n := 7) (Nat.le_of_ble_eq_true rfl)
  generalize (lg_sl ([.ref (ad 0 0), .int x1, .int x2]) ++ List.replicate (7 - (lg_sl ([.ref (ad 0 0), .int x1, .int x2])).length) Slot.unset).toArray = ls at hl ⊢
  exact b_X3_recutsLeft_0 C0 hR hout σ x1 x2 _ _ _ hh hl r0 h0
theorem qc38 {R : Room} {s : State} {args : Array Value} (ht : ∀ w ∈ allw, w.before args s = true) (hR : (rmX3_needOrder).frames + 1 ≤ R.frames ∧ 8 + (2 + 11) + (rmX3_needOrder).locals ≤ R.locals) : CallW R s args RX3 RX3 205 yX3_needOrder cX3_needOrder 2 (some (.object "Teethrow$Order")) (wm yX3_needOrder cX3_needOrder 2 (some (.object "Teethrow$Order"))) rmX3_needOrder 1 6 1 := cwV 1 ht (gd_of (fun _ h => h) _ (mV w256 w258 w259 w64 w257)) rfl rfl rfl (by decide +kernel) hR
theorem qc39 {R : Room} {s : State} {args : Array Value} (ht : ∀ w ∈ allw, w.before args s = true) (hR : (rmX0_takes).frames + 1 ≤ R.frames ∧ 8 + (2 + 11) + (rmX0_takes).locals ≤ R.locals) : CallW R s args RX3 RX0 209 yX0_takes cX0_takes 2 (some .boolean) (wm yX0_takes cX0_takes 2 (some .boolean)) rmX0_takes 0 0 1 := cwV 1 ht (gd_of (fun _ h => h) _ (mV w260 w262 w263 w175 w261)) rfl rfl rfl (by decide +kernel) hR
def rmX3_isGood : Room := { frames := 7, cells := 2, slots := 12, locals := 111 }
def f_X3_isGood_0 (σ : Sg) (x1 : Int32) (x2 : Int32) : Option ((Nat ⊕ Int32) × Sg) :=
  (bx (f_X3_needTool σ x1) (fun r1 => (bx (f_X3_needOrder r1.2 x2) (fun r3 => ((f_X0_takes r3.2 r3.1 r1.1).bind (fun r5 => (if r5.1 = 0 ∨ r5.1 = 1 then (some (.inr r5.1, r5.2)) else none)))) (fun x => some (.inl x.1, x.2)))) (fun x => some (.inl x.1, x.2)))
set_option maxRecDepth 100000 in
set_option maxHeartbeats 4000000 in
theorem b_X3_isGood_0 (C0 : Cx p l s m args meth c cX3_isGood 4 RX3 D cy n0) (hR : meth.sig.returnType = (some .boolean)) (hout : ∀ x ∈ c.exceptionTable.toList, False) (σ : Sg) (x1 : Int32) (x2 : Int32) (H : Heap) (locs : List Loc) (ls : Array Slot) (hh : Hp D cy n0 ad nT nO s σ H locs) (hl : lv_has ls 4 [(0, .ref (ad 0 0)), (1, .int x1), (2, .int x2)]) : Sm (Qz below args s D cy n0 ad nT nO vI 2 12) (f_X3_isGood_0 σ x1 x2) p l e rmX3_isGood s m args below meth c H locs 0 0 (F0 m 0 ls []) := by
  unfold f_X3_isGood_0
  refine s_aload_n C0 dX3_isGood_0 rfl (lv_at hl 0 rfl) ?_
  refine s_iload_n C0 dX3_isGood_1 rfl (lv_at hl 1 rfl) ?_
  refine s_Vx (As := [.int x1]) (rest := []) C0 hh (c_X3_needTool C0.2.2.2.2.2.2 _ x1) (qc22 C0.1.2.2.2.2 ⟨Nat.le_of_ble_eq_true rfl, Nat.le_of_ble_eq_true rfl⟩) (rl_b (by decide)) rfl rfl rfl hl.1 rfl (lv_room (Nat.le_of_ble_eq_true rfl)) dX3_isGood_2 ⟨Nat.le_of_ble_eq_true rfl, Nat.le_of_ble_eq_true rfl⟩ hout (Nat.le_of_ble_eq_true rfl) (Nat.le_of_ble_eq_true rfl) (fun r1 H locs hor1 hh => ?_)
  have hj2 := nT_lt hor1 hh.2.2.2
  refine s_astore_n (lv' := [(3, .ref (ad 1 r1.1)), (0, .ref (ad 0 0)), (1, .int x1), (2, .int x2)]) C0 dX3_isGood_5 rfl hl (by decide) rfl (fun ls hl => ?_)
  refine s_aload_n C0 dX3_isGood_6 rfl (lv_at hl 1 rfl) ?_
  refine s_iload_n C0 dX3_isGood_7 rfl (lv_at hl 3 rfl) ?_
  refine s_Vx (As := [.int x2]) (rest := []) C0 hh (c_X3_needOrder C0.2.2.2.2.2.2 _ x2) (qc38 C0.1.2.2.2.2 ⟨Nat.le_of_ble_eq_true rfl, Nat.le_of_ble_eq_true rfl⟩) (rl_b (by decide)) rfl rfl rfl hl.1 rfl (lv_room (Nat.le_of_ble_eq_true rfl)) dX3_isGood_8 ⟨Nat.le_of_ble_eq_true rfl, Nat.le_of_ble_eq_true rfl⟩ hout (Nat.le_of_ble_eq_true rfl) (Nat.le_of_ble_eq_true rfl) (fun r3 H locs hor3 hh => ?_)
  have hj4 := nO_lt hor3 hh.2.2.2
  refine s_aload_n C0 dX3_isGood_11 rfl (lv_at hl 0 rfl) ?_
  refine s_V (As := [.ref (ad 1 r1.1)]) (rest := []) C0 hh (c_X0_takes C0.2.2.2.2.2.2 _ r3.1 r1.1 hj4 hj2) (qc39 C0.1.2.2.2.2 ⟨Nat.le_of_ble_eq_true rfl, Nat.le_of_ble_eq_true rfl⟩) (rl_6 hj4) rfl rfl rfl hl.1 rfl (lv_room (Nat.le_of_ble_eq_true rfl)) dX3_isGood_12 ⟨Nat.le_of_ble_eq_true rfl, Nat.le_of_ble_eq_true rfl⟩ (fun r5 H locs hor5 hh => ?_)
  refine s_gd (fun hg6 => ?_)
  exact s_iretx C0 hh hR (nz_of hg6) (Nat.le_of_ble_eq_true rfl) (Nat.le_of_ble_eq_true rfl) dX3_isGood_15
def f_X3_isGood (σ : Sg) (x1 : Int32) (x2 : Int32) : Option ((Nat ⊕ Int32) × Sg) := f_X3_isGood_0 σ x1 x2
set_option maxRecDepth 100000 in
set_option maxHeartbeats 4000000 in
theorem c_X3_isGood (hst : l.stackTraces = false) (σ : Sg) (x1 : Int32) (x2 : Int32) : CtX l yX3_isGood (wm yX3_isGood cX3_isGood 4 (some .boolean)) rmX3_isGood 2 12 vI [.ref (ad 0 0), .int x1, .int x2] D cy n0 ad nT nO  σ (f_X3_isGood σ x1 x2) := by
  intro r0 h0
  refine vx_ofW (cc := cX3_isGood) (maxL := 4) (ret := (some .boolean)) (by decide +kernel) rfl ?_
  intro p e s m args below meth c s₁ B hml hout hv
  obtain ⟨C0, hh, hR, rfl⟩ := ent B hml hst hv
  rw [lg_entry_eq]
  have hl := lv_entry ([.ref (ad 0 0), .int x1, .int x2]) (n := 4) (Nat.le_of_ble_eq_true rfl)
  generalize (lg_sl ([.ref (ad 0 0), .int x1, .int x2]) ++ List.replicate (4 - (lg_sl ([.ref (ad 0 0), .int x1, .int x2])).length) Slot.unset).toArray = ls at hl ⊢
  exact b_X3_isGood_0 C0 hR hout σ x1 x2 _ _ _ hh hl r0 h0

def rmX3_send : Room := { frames := 7, cells := 3, slots := 18, locals := 111 }
def f_X3_send_0 (σ : Sg) (x1 : Int32) (x2 : Int32) : Option ((Nat ⊕ Int32) × Sg) :=
  (bx (f_X3_needTool σ x1) (fun r1 => (bx (f_X3_needOrder r1.2 x2) (fun r3 => ((f_X0_takes r3.2 r3.1 r1.1).bind (fun r5 => (if (r5.1 : Int32) = (0 : Int32) then (some (.inl 4, r5.2)) else (if ((r5.2.1 6 r3.1 3) : Int32) < (r5.2.1 6 r3.1 2) then (if (x1 : Int32) < 0 ∨ 8 ≤ (x1 : Int32).toNatClampNeg then none else (some (.inr ((sv (sv r5.2 10 0 (x1 : Int32).toNatClampNeg 0) 6 r3.1 3 ((r5.2.1 6 r3.1 3) + 1)).1 6 r3.1 3), (sv (sv r5.2 10 0 (x1 : Int32).toNatClampNeg 0) 6 r3.1 3 ((r5.2.1 6 r3.1 3) + 1))))) else (some (.inl 4, r5.2))))))) (fun x => some (.inl x.1, x.2)))) (fun x => some (.inl x.1, x.2)))
set_option maxRecDepth 100000 in
set_option maxHeartbeats 4000000 in
theorem b_X3_send_0 (C0 : Cx p l s m args meth c cX3_send 5 RX3 D cy n0) (hR : meth.sig.returnType = (some .int)) (hout : ∀ x ∈ c.exceptionTable.toList, False) (σ : Sg) (x1 : Int32) (x2 : Int32) (H : Heap) (locs : List Loc) (ls : Array Slot) (hh : Hp D cy n0 ad nT nO s σ H locs) (hl : lv_has ls 5 [(0, .ref (ad 0 0)), (1, .int x1), (2, .int x2)]) : Sm (Qz below args s D cy n0 ad nT nO vI 3 18) (f_X3_send_0 σ x1 x2) p l e rmX3_send s m args below meth c H locs 0 0 (F0 m 0 ls []) := by
  unfold f_X3_send_0
  refine s_aload_n C0 dX3_send_0 rfl (lv_at hl 0 rfl) ?_
  refine s_iload_n C0 dX3_send_1 rfl (lv_at hl 1 rfl) ?_
  refine s_Vx (As := [.int x1]) (rest := []) C0 hh (c_X3_needTool C0.2.2.2.2.2.2 _ x1) (qc22 C0.1.2.2.2.2 ⟨Nat.le_of_ble_eq_true rfl, Nat.le_of_ble_eq_true rfl⟩) (rl_b (by decide)) rfl rfl rfl hl.1 rfl (lv_room (Nat.le_of_ble_eq_true rfl)) dX3_send_2 ⟨Nat.le_of_ble_eq_true rfl, Nat.le_of_ble_eq_true rfl⟩ hout (Nat.le_of_ble_eq_true rfl) (Nat.le_of_ble_eq_true rfl) (fun r1 H locs hor1 hh => ?_)
  have hj2 := nT_lt hor1 hh.2.2.2
  refine s_astore_n (lv' := [(3, .ref (ad 1 r1.1)), (0, .ref (ad 0 0)), (1, .int x1), (2, .int x2)]) C0 dX3_send_5 rfl hl (by decide) rfl (fun ls hl => ?_)
  refine s_aload_n C0 dX3_send_6 rfl (lv_at hl 1 rfl) ?_
  refine s_iload_n C0 dX3_send_7 rfl (lv_at hl 3 rfl) ?_
  refine s_Vx (As := [.int x2]) (rest := []) C0 hh (c_X3_needOrder C0.2.2.2.2.2.2 _ x2) (qc38 C0.1.2.2.2.2 ⟨Nat.le_of_ble_eq_true rfl, Nat.le_of_ble_eq_true rfl⟩) (rl_b (by decide)) rfl rfl rfl hl.1 rfl (lv_room (Nat.le_of_ble_eq_true rfl)) dX3_send_8 ⟨Nat.le_of_ble_eq_true rfl, Nat.le_of_ble_eq_true rfl⟩ hout (Nat.le_of_ble_eq_true rfl) (Nat.le_of_ble_eq_true rfl) (fun r3 H locs hor3 hh => ?_)
  have hj4 := nO_lt hor3 hh.2.2.2
  refine s_astore (lv' := [(4, .ref (ad 6 r3.1)), (3, .ref (ad 1 r1.1)), (0, .ref (ad 0 0)), (1, .int x1), (2, .int x2)]) C0 dX3_send_11 hl (by decide) rfl (fun ls hl => ?_)
  refine s_aload C0 dX3_send_13 (lv_at hl 0 rfl) ?_
  refine s_aload_n C0 dX3_send_15 rfl (lv_at hl 1 rfl) ?_
  refine s_V (As := [.ref (ad 1 r1.1)]) (rest := []) C0 hh (c_X0_takes C0.2.2.2.2.2.2 _ r3.1 r1.1 hj4 hj2) (qc39 C0.1.2.2.2.2 ⟨Nat.le_of_ble_eq_true rfl, Nat.le_of_ble_eq_true rfl⟩) (rl_6 hj4) rfl rfl rfl hl.1 rfl (lv_room (Nat.le_of_ble_eq_true rfl)) dX3_send_16 ⟨Nat.le_of_ble_eq_true rfl, Nat.le_of_ble_eq_true rfl⟩ (fun r5 H locs hor5 hh => ?_)
  refine s_if_eq (tgt := 35) C0 dX3_send_19 (by decide) (fun _ => ?_) (fun _ => ?_)
  · exact s_thr (text := "not good, or the order is full") C0 hh ax164 w162 w163 (by decide) hl.1 dX3_send_35 dX3_send_38 dX3_send_39 dX3_send_41 dX3_send_44 hout (Nat.le_of_ble_eq_true rfl) (Nat.le_of_ble_eq_true rfl) (Nat.le_of_ble_eq_true rfl) (Nat.le_of_ble_eq_true rfl) (Nat.le_of_ble_eq_true rfl) (Nat.le_of_ble_eq_true rfl)
  · refine s_aload C0 dX3_send_22 (lv_at hl 0 rfl) ?_
    refine s_getN (v := .int (r5.2.1 6 r3.1 3)) C0 hh (rl_6 hj4) rfl (T := TX0) (N := 4) rfl hinX0 (by decide) w264 rfl dX3_send_24 ?_
    refine s_aload C0 dX3_send_27 (lv_at hl 0 rfl) ?_
    refine s_getN (v := .int (r5.2.1 6 r3.1 2)) C0 hh (rl_6 hj4) rfl (T := TX0) (N := 4) rfl hinX0 (by decide) w265 rfl dX3_send_29 ?_
    refine s_icmp_lt (tgt := 45) C0 dX3_send_32 (by decide) (fun _ => ?_) (fun _ => ?_)
    · refine s_aload_n C0 dX3_send_45 rfl (lv_at hl 2 rfl) ?_
      refine s_get (v := .ref (ad 10 0)) C0 hh (rl_b (by decide)) rfl (T := TX3) (N := 6) rfl hinX3 (by decide) w26 rfl dX3_send_46 ?_
      refine s_iload_n C0 dX3_send_49 rfl (lv_at hl 3 rfl) ?_
      refine s_null C0 dX3_send_50 ?_
      refine s_aastN C0 hh dX3_send_51 (fun H locs hh => ?_)
      refine s_aload C0 dX3_send_52 (lv_at hl 0 rfl) ?_
      refine s_dup C0 dX3_send_54 rfl ?_
      refine s_getN (v := .int (r5.2.1 6 r3.1 3)) C0 hh (rl_6 hj4) rfl (T := TX0) (N := 4) rfl hinX0 (by decide) w264 rfl dX3_send_55 ?_
      refine s_iconst (v := 1) C0 dX3_send_58 (by decide) ?_
      refine s_iadd C0 dX3_send_59 ?_
      refine s_putN C0 hh (rl_6 hj4) rfl rfl (T := TX0) (N := 4) rfl hinX0 tyX0 tyX0_ok nmX0 (by decide) w264 rfl (ty := .int) (by decide +kernel) rfl rfl (Nat.le_of_ble_eq_true rfl) (by decide) (by decide) (by decide) dX3_send_60 (fun H locs hh => ?_)
      refine s_aload C0 dX3_send_63 (lv_at hl 0 rfl) ?_
      refine s_getN (v := .int ((sv (sv r5.2 10 0 (x1 : Int32).toNatClampNeg 0) 6 r3.1 3 ((r5.2.1 6 r3.1 3) + 1)).1 6 r3.1 3)) C0 hh (rl_6 hj4) rfl (T := TX0) (N := 4) rfl hinX0 (by decide) w264 rfl dX3_send_65 ?_
      exact s_iretx C0 hh hR rfl (Nat.le_of_ble_eq_true rfl) (Nat.le_of_ble_eq_true rfl) dX3_send_68
    · exact s_thr (text := "not good, or the order is full") C0 hh ax164 w162 w163 (by decide) hl.1 dX3_send_35 dX3_send_38 dX3_send_39 dX3_send_41 dX3_send_44 hout (Nat.le_of_ble_eq_true rfl) (Nat.le_of_ble_eq_true rfl) (Nat.le_of_ble_eq_true rfl) (Nat.le_of_ble_eq_true rfl) (Nat.le_of_ble_eq_true rfl) (Nat.le_of_ble_eq_true rfl)
def f_X3_send (σ : Sg) (x1 : Int32) (x2 : Int32) : Option ((Nat ⊕ Int32) × Sg) := f_X3_send_0 σ x1 x2
set_option maxRecDepth 100000 in
set_option maxHeartbeats 4000000 in
theorem c_X3_send (hst : l.stackTraces = false) (σ : Sg) (x1 : Int32) (x2 : Int32) : CtX l yX3_send (wm yX3_send cX3_send 5 (some .int)) rmX3_send 3 18 vI [.ref (ad 0 0), .int x1, .int x2] D cy n0 ad nT nO  σ (f_X3_send σ x1 x2) := by
  intro r0 h0
  refine vx_ofW (cc := cX3_send) (maxL := 5) (ret := (some .int)) (by decide +kernel) rfl ?_
  intro p e s m args below meth c s₁ B hml hout hv
  obtain ⟨C0, hh, hR, rfl⟩ := ent B hml hst hv
  rw [lg_entry_eq]
  have hl := lv_entry ([.ref (ad 0 0), .int x1, .int x2]) (n := 5) (Nat.le_of_ble_eq_true rfl)
  generalize (lg_sl ([.ref (ad 0 0), .int x1, .int x2]) ++ List.replicate (5 - (lg_sl ([.ref (ad 0 0), .int x1, .int x2])).length) Slot.unset).toArray = ls at hl ⊢
  exact b_X3_send_0 C0 hR hout σ x1 x2 _ _ _ hh hl r0 h0

def rmX3_sent : Room := { frames := 7, cells := 1, slots := 6, locals := 111 }
def f_X3_sent_0 (σ : Sg) (x1 : Int32) : Option ((Nat ⊕ Int32) × Sg) :=
  (bx (f_X3_needOrder σ x1) (fun r1 => (some (.inr (r1.2.1 6 r1.1 3), r1.2))) (fun x => some (.inl x.1, x.2)))
set_option maxRecDepth 100000 in
set_option maxHeartbeats 4000000 in
theorem b_X3_sent_0 (C0 : Cx p l s m args meth c cX3_sent 2 RX3 D cy n0) (hR : meth.sig.returnType = (some .int)) (hout : ∀ x ∈ c.exceptionTable.toList, False) (σ : Sg) (x1 : Int32) (H : Heap) (locs : List Loc) (ls : Array Slot) (hh : Hp D cy n0 ad nT nO s σ H locs) (hl : lv_has ls 2 [(0, .ref (ad 0 0)), (1, .int x1)]) : Sm (Qz below args s D cy n0 ad nT nO vI 1 6) (f_X3_sent_0 σ x1) p l e rmX3_sent s m args below meth c H locs 0 0 (F0 m 0 ls []) := by
  unfold f_X3_sent_0
  refine s_aload_n C0 dX3_sent_0 rfl (lv_at hl 0 rfl) ?_
  refine s_iload_n C0 dX3_sent_1 rfl (lv_at hl 1 rfl) ?_
  refine s_Vx (As := [.int x1]) (rest := []) C0 hh (c_X3_needOrder C0.2.2.2.2.2.2 _ x1) (qc38 C0.1.2.2.2.2 ⟨Nat.le_of_ble_eq_true rfl, Nat.le_of_ble_eq_true rfl⟩) (rl_b (by decide)) rfl rfl rfl hl.1 rfl (lv_room (Nat.le_of_ble_eq_true rfl)) dX3_sent_2 ⟨Nat.le_of_ble_eq_true rfl, Nat.le_of_ble_eq_true rfl⟩ hout (Nat.le_of_ble_eq_true rfl) (Nat.le_of_ble_eq_true rfl) (fun r1 H locs hor1 hh => ?_)
  have hj2 := nO_lt hor1 hh.2.2.2
  refine s_getN (v := .int (r1.2.1 6 r1.1 3)) C0 hh (rl_6 hj2) rfl (T := TX0) (N := 4) rfl hinX0 (by decide) w264 rfl dX3_sent_5 ?_
  exact s_iretx C0 hh hR rfl (Nat.le_of_ble_eq_true rfl) (Nat.le_of_ble_eq_true rfl) dX3_sent_8
def f_X3_sent (σ : Sg) (x1 : Int32) : Option ((Nat ⊕ Int32) × Sg) := f_X3_sent_0 σ x1
set_option maxRecDepth 100000 in
set_option maxHeartbeats 4000000 in
theorem c_X3_sent (hst : l.stackTraces = false) (σ : Sg) (x1 : Int32) : CtX l yX3_sent (wm yX3_sent cX3_sent 2 (some .int)) rmX3_sent 1 6 vI [.ref (ad 0 0), .int x1] D cy n0 ad nT nO  σ (f_X3_sent σ x1) := by
  intro r0 h0
  refine vx_ofW (cc := cX3_sent) (maxL := 2) (ret := (some .int)) (by decide +kernel) rfl ?_
  intro p e s m args below meth c s₁ B hml hout hv
  obtain ⟨C0, hh, hR, rfl⟩ := ent B hml hst hv
  rw [lg_entry_eq]
  have hl := lv_entry ([.ref (ad 0 0), .int x1]) (n := 2) (Nat.le_of_ble_eq_true rfl)
  generalize (lg_sl ([.ref (ad 0 0), .int x1]) ++ List.replicate (2 - (lg_sl ([.ref (ad 0 0), .int x1])).length) Slot.unset).toArray = ls at hl ⊢
  exact b_X3_sent_0 C0 hR hout σ x1 _ _ _ hh hl r0 h0
theorem qc40 {R : Room} {s : State} {args : Array Value} (ht : ∀ w ∈ allw, w.before args s = true) (hR : (rmX1_lostOnes).frames + 1 ≤ R.frames ∧ 8 + (3 + 11) + (rmX1_lostOnes).locals ≤ R.locals) : CallW R s args RX3 RX1 221 yX1_lostOnes cX1_lostOnes 3 (some .int) (wm yX1_lostOnes cX1_lostOnes 3 (some .int)) rmX1_lostOnes 0 0 0 := cwV 0 ht (gd_of (fun _ h => h) _ (mV w269 w271 w272 w15 w270)) rfl rfl rfl (by decide +kernel) hR
def rmX3_wornShare : Room := { frames := 6, cells := 1, slots := 6, locals := 90 }
def f_X3_wornShare_51 (rec6 : Sg → Int32 → Int32 → Int32 → Option ((Nat ⊕ UInt32) × Sg)) (σ : Sg) (x1 : Int32) (x2 : Int32) (x3 : Int32) : Option ((Nat ⊕ UInt32) × Sg) :=
  (rec6 σ x1 x2 (x3 + 1))
set_option maxRecDepth 100000 in
set_option maxHeartbeats 4000000 in
theorem b_X3_wornShare_51 (C0 : Cx p l s m args meth c cX3_wornShare 4 RX3 D cy n0) (hR : meth.sig.returnType = (some .float)) (hout : ∀ x ∈ c.exceptionTable.toList, False) (rec6 : Sg → Int32 → Int32 → Int32 → Option ((Nat ⊕ UInt32) × Sg)) (hrec6 : ∀ (σ : Sg) (x1 : Int32) (x2 : Int32) (x3 : Int32) (H : Heap) (locs : List Loc) (ls : Array Slot), Hp D cy n0 ad nT nO s σ H locs → lv_has ls 4 [(0, .ref (ad 0 0)), (1, .int x1), (2, .int x2), (3, .int x3)] → Sm (Qz below args s D cy n0 ad nT nO vF 1 6) (rec6 σ x1 x2 x3) p l e rmX3_wornShare s m args below meth c H locs 0 0 (F0 m 6 ls [])) (σ : Sg) (x1 : Int32) (x2 : Int32) (x3 : Int32) (H : Heap) (locs : List Loc) (ls : Array Slot) (hh : Hp D cy n0 ad nT nO s σ H locs) (hl : lv_has ls 4 [(0, .ref (ad 0 0)), (1, .int x1), (2, .int x2), (3, .int x3)]) : Sm (Qz below args s D cy n0 ad nT nO vF 1 6) (f_X3_wornShare_51 rec6 σ x1 x2 x3) p l e rmX3_wornShare s m args below meth c H locs 0 0 (F0 m 51 ls []) := by
  unfold f_X3_wornShare_51
  refine s_iinc (k := 3) (v := (x3 + 1)) (lv' := [(3, .int (x3 + 1)), (0, .ref (ad 0 0)), (1, .int x1), (2, .int x2)]) C0 dX3_wornShare_51 hl rfl rfl (by decide) rfl (fun ls hl => ?_)
  refine s_goto (tgt := 6) C0 dX3_wornShare_54 (by decide) ?_
  exact hrec6 σ x1 x2 (x3 + 1) _ _ _ hh (lv_sub hl [1, 2, 3, 0] rfl)
def g_X3_wornShare_6 (rec6 : Sg → Int32 → Int32 → Int32 → Option ((Nat ⊕ UInt32) × Sg)) (σ : Sg) (x1 : Int32) (x2 : Int32) (x3 : Int32) : Option ((Nat ⊕ UInt32) × Sg) :=
  (if (8 : Int32) ≤ (x3 : Int32) then (if (x2 : Int32) = (0 : Int32) then (some (.inl 6, σ)) else (if (FP.fdiv (FP.i2f x1) (FP.i2f x2)) &&& 0x7fffffff ≤ 0x7f800000 then (some (.inr (FP.fdiv (FP.i2f x1) (FP.i2f x2)), σ)) else none)) else (if (x3 : Int32) < 0 ∨ 8 ≤ (x3 : Int32).toNatClampNeg then none else if σ.1 10 0 (x3 : Int32).toNatClampNeg = 0 then (f_X3_wornShare_51 rec6 σ x1 x2 x3) else (if (x3 : Int32) < 0 ∨ 8 ≤ (x3 : Int32).toNatClampNeg then none else if σ.1 10 0 (x3 : Int32).toNatClampNeg = 0 then none else ((f_X1_lostOnes σ ((x3 : Int32).toNatClampNeg)).bind (fun r3 => (if (x3 : Int32) < 0 ∨ 8 ≤ (x3 : Int32).toNatClampNeg then none else if r3.2.1 10 0 (x3 : Int32).toNatClampNeg = 0 then none else (f_X3_wornShare_51 rec6 r3.2 (x1 + r3.1) (x2 + (r3.2.1 2 (x3 : Int32).toNatClampNeg 3)) x3)))))))
def f_X3_wornShare_6 : Nat → Sg → Int32 → Int32 → Int32 → Option ((Nat ⊕ UInt32) × Sg)
  | 0 => fun _ _ _ _ => none
  | n + 1 => fun σ x1 x2 x3 => g_X3_wornShare_6 (f_X3_wornShare_6 n) σ x1 x2 x3
set_option maxRecDepth 100000 in
set_option maxHeartbeats 4000000 in
theorem a_X3_wornShare_6 (C0 : Cx p l s m args meth c cX3_wornShare 4 RX3 D cy n0) (hR : meth.sig.returnType = (some .float)) (hout : ∀ x ∈ c.exceptionTable.toList, False) (rec6 : Sg → Int32 → Int32 → Int32 → Option ((Nat ⊕ UInt32) × Sg)) (hrec6 : ∀ (σ : Sg) (x1 : Int32) (x2 : Int32) (x3 : Int32) (H : Heap) (locs : List Loc) (ls : Array Slot), Hp D cy n0 ad nT nO s σ H locs → lv_has ls 4 [(0, .ref (ad 0 0)), (1, .int x1), (2, .int x2), (3, .int x3)] → Sm (Qz below args s D cy n0 ad nT nO vF 1 6) (rec6 σ x1 x2 x3) p l e rmX3_wornShare s m args below meth c H locs 0 0 (F0 m 6 ls [])) (σ : Sg) (x1 : Int32) (x2 : Int32) (x3 : Int32) (H : Heap) (locs : List Loc) (ls : Array Slot) (hh : Hp D cy n0 ad nT nO s σ H locs) (hl : lv_has ls 4 [(0, .ref (ad 0 0)), (1, .int x1), (2, .int x2), (3, .int x3)]) : Sm (Qz below args s D cy n0 ad nT nO vF 1 6) (g_X3_wornShare_6 rec6 σ x1 x2 x3) p l e rmX3_wornShare s m args below meth c H locs 0 0 (F0 m 6 ls []) := by
  unfold g_X3_wornShare_6
  refine s_iload_n C0 dX3_wornShare_6 rfl (lv_at hl 3 rfl) ?_
  refine s_bipush (v := 8) C0 dX3_wornShare_7 (by decide) ?_
  refine s_icmp_ge (tgt := 57) C0 dX3_wornShare_9 (by decide) (fun _ => ?_) (fun _ => ?_)
  · refine s_iload_n C0 dX3_wornShare_57 rfl (lv_at hl 2 rfl) ?_
    refine s_if_ne (tgt := 71) C0 dX3_wornShare_58 (by decide) (fun _ => ?_) (fun _ => ?_)
    · refine s_iload_n C0 dX3_wornShare_71 rfl (lv_at hl 1 rfl) ?_
      refine s_i2f C0 dX3_wornShare_72 ?_
      refine s_iload_n C0 dX3_wornShare_73 rfl (lv_at hl 2 rfl) ?_
      refine s_i2f C0 dX3_wornShare_74 ?_
      refine s_fdiv C0 dX3_wornShare_75 ?_
      exact s_fretx C0 hh hR (Nat.le_of_ble_eq_true rfl) (Nat.le_of_ble_eq_true rfl) dX3_wornShare_76
    · exact s_thr (text := "no teeth") C0 hh ax268 w266 w267 (by decide) hl.1 dX3_wornShare_61 dX3_wornShare_64 dX3_wornShare_65 dX3_wornShare_67 dX3_wornShare_70 hout (Nat.le_of_ble_eq_true rfl) (Nat.le_of_ble_eq_true rfl) (Nat.le_of_ble_eq_true rfl) (Nat.le_of_ble_eq_true rfl) (Nat.le_of_ble_eq_true rfl) (Nat.le_of_ble_eq_true rfl)
  · refine s_aload_n C0 dX3_wornShare_12 rfl (lv_at hl 0 rfl) ?_
    refine s_get (v := .ref (ad 10 0)) C0 hh (rl_b (by decide)) rfl (T := TX3) (N := 6) rfl hinX3 (by decide) w26 rfl dX3_wornShare_13 ?_
    refine s_iload_n C0 dX3_wornShare_16 rfl (lv_at hl 3 rfl) ?_
    refine s_aaldNUT (tgt := 51) C0 hh dX3_wornShare_17 dX3_wornShare_18 (by decide) (fun _ => ?_) (fun _ _ => ?_)
    · exact b_X3_wornShare_51 C0 hR hout rec6 hrec6 σ x1 x2 x3 _ _ _ hh (lv_sub hl [0, 1, 2, 3] rfl)
    · refine s_iload_n C0 dX3_wornShare_21 rfl (lv_at hl 1 rfl) ?_
      refine s_aload_n C0 dX3_wornShare_22 rfl (lv_at hl 0 rfl) ?_
      refine s_get (v := .ref (ad 10 0)) C0 hh (rl_b (by decide)) rfl (T := TX3) (N := 6) rfl hinX3 (by decide) w26 rfl dX3_wornShare_23 ?_
      refine s_iload_n C0 dX3_wornShare_26 rfl (lv_at hl 3 rfl) ?_
      refine s_aaldT C0 hh dX3_wornShare_27 (fun hj2 => ?_)
      refine s_getN (v := .ref (ad 2 (x3 : Int32).toNatClampNeg)) C0 hh (rl_1 hj2) rfl (T := TX2) (N := 14) rfl hinX2 (by decide) w199 rfl dX3_wornShare_28 ?_
      refine s_V (As := []) (rest := [.int x1]) C0 hh (c_X1_lostOnes C0.2.2.2.2.2.2 _ ((x3 : Int32).toNatClampNeg) (Or.inl hj2)) (qc40 C0.1.2.2.2.2 ⟨Nat.le_of_ble_eq_true rfl, Nat.le_of_ble_eq_true rfl⟩) (rl_2 (Or.inl hj2)) rfl rfl rfl hl.1 rfl (lv_room (Nat.le_of_ble_eq_true rfl)) dX3_wornShare_31 ⟨Nat.le_of_ble_eq_true rfl, Nat.le_of_ble_eq_true rfl⟩ (fun r3 H locs hor3 hh => ?_)
      refine s_iadd C0 dX3_wornShare_34 ?_
      refine s_istore_n (lv' := [(1, .int (x1 + r3.1)), (0, .ref (ad 0 0)), (2, .int x2), (3, .int x3)]) C0 dX3_wornShare_35 rfl hl (by decide) rfl (fun ls hl => ?_)
      refine s_iload_n C0 dX3_wornShare_36 rfl (lv_at hl 2 rfl) ?_
      refine s_aload_n C0 dX3_wornShare_37 rfl (lv_at hl 1 rfl) ?_
      refine s_get (v := .ref (ad 10 0)) C0 hh (rl_b (by decide)) rfl (T := TX3) (N := 6) rfl hinX3 (by decide) w26 rfl dX3_wornShare_38 ?_
      refine s_iload_n C0 dX3_wornShare_41 rfl (lv_at hl 3 rfl) ?_
      refine s_aaldT C0 hh dX3_wornShare_42 (fun hj4 => ?_)
      refine s_getN (v := .ref (ad 2 (x3 : Int32).toNatClampNeg)) C0 hh (rl_1 hj4) rfl (T := TX2) (N := 14) rfl hinX2 (by decide) w199 rfl dX3_wornShare_43 ?_
      refine s_getN (v := .int (r3.2.1 2 (x3 : Int32).toNatClampNeg 3)) C0 hh (rl_2 (Or.inl hj4)) rfl (T := TX1) (N := 8) rfl hinX1 (by decide) w160 rfl dX3_wornShare_46 ?_
      refine s_iadd C0 dX3_wornShare_49 ?_
      refine s_istore_n (lv' := [(2, .int (x2 + (r3.2.1 2 (x3 : Int32).toNatClampNeg 3))), (1, .int (x1 + r3.1)), (0, .ref (ad 0 0)), (3, .int x3)]) C0 dX3_wornShare_50 rfl hl (by decide) rfl (fun ls hl => ?_)
      exact b_X3_wornShare_51 C0 hR hout rec6 hrec6 r3.2 (x1 + r3.1) (x2 + (r3.2.1 2 (x3 : Int32).toNatClampNeg 3)) x3 _ _ _ hh (lv_sub hl [2, 1, 0, 3] rfl)
theorem b_X3_wornShare_6 (C0 : Cx p l s m args meth c cX3_wornShare 4 RX3 D cy n0) (hR : meth.sig.returnType = (some .float)) (hout : ∀ x ∈ c.exceptionTable.toList, False) : ∀ (n : Nat) (σ : Sg) (x1 : Int32) (x2 : Int32) (x3 : Int32) (H : Heap) (locs : List Loc) (ls : Array Slot) (hh : Hp D cy n0 ad nT nO s σ H locs) (hl : lv_has ls 4 [(0, .ref (ad 0 0)), (1, .int x1), (2, .int x2), (3, .int x3)]), Sm (Qz below args s D cy n0 ad nT nO vF 1 6) (f_X3_wornShare_6 n σ x1 x2 x3) p l e rmX3_wornShare s m args below meth c H locs 0 0 (F0 m 6 ls []) := by
  intro n
  induction n with
  | zero => intros; intro r h; cases h
  | succ n ih => intro σ x1 x2 x3 H locs ls hh hl; exact a_X3_wornShare_6 C0 hR hout (f_X3_wornShare_6 n) ih σ x1 x2 x3 H locs ls hh hl
def f_X3_wornShare_0 (σ : Sg) : Option ((Nat ⊕ UInt32) × Sg) :=
  (f_X3_wornShare_6 70 σ 0 0 0)
set_option maxRecDepth 100000 in
set_option maxHeartbeats 4000000 in
theorem b_X3_wornShare_0 (C0 : Cx p l s m args meth c cX3_wornShare 4 RX3 D cy n0) (hR : meth.sig.returnType = (some .float)) (hout : ∀ x ∈ c.exceptionTable.toList, False) (σ : Sg) (H : Heap) (locs : List Loc) (ls : Array Slot) (hh : Hp D cy n0 ad nT nO s σ H locs) (hl : lv_has ls 4 [(0, .ref (ad 0 0))]) : Sm (Qz below args s D cy n0 ad nT nO vF 1 6) (f_X3_wornShare_0 σ) p l e rmX3_wornShare s m args below meth c H locs 0 0 (F0 m 0 ls []) := by
  unfold f_X3_wornShare_0
  refine s_iconst (v := 0) C0 dX3_wornShare_0 (by decide) ?_
  refine s_istore_n (lv' := [(1, .int 0), (0, .ref (ad 0 0))]) C0 dX3_wornShare_1 rfl hl (by decide) rfl (fun ls hl => ?_)
  refine s_iconst (v := 0) C0 dX3_wornShare_2 (by decide) ?_
  refine s_istore_n (lv' := [(2, .int 0), (1, .int 0), (0, .ref (ad 0 0))]) C0 dX3_wornShare_3 rfl hl (by decide) rfl (fun ls hl => ?_)
  refine s_iconst (v := 0) C0 dX3_wornShare_4 (by decide) ?_
  refine s_istore_n (lv' := [(3, .int 0), (2, .int 0), (1, .int 0), (0, .ref (ad 0 0))]) C0 dX3_wornShare_5 rfl hl (by decide) rfl (fun ls hl => ?_)
  exact b_X3_wornShare_6 C0 hR hout 70 σ 0 0 0 _ _ _ hh (lv_sub hl [3, 2, 1, 0] rfl)
def f_X3_wornShare (σ : Sg) : Option ((Nat ⊕ UInt32) × Sg) := f_X3_wornShare_0 σ
set_option maxRecDepth 100000 in
set_option maxHeartbeats 4000000 in
theorem c_X3_wornShare (hst : l.stackTraces = false) (σ : Sg) : CtX l yX3_wornShare (wm yX3_wornShare cX3_wornShare 4 (some .float)) rmX3_wornShare 1 6 vF [.ref (ad 0 0)] D cy n0 ad nT nO  σ (f_X3_wornShare σ) := by
  intro r0 h0
  refine vx_ofW (cc := cX3_wornShare) (maxL := 4) (ret := (some .float)) (by decide +kernel) rfl ?_
  intro p e s m args below meth c s₁ B hml hout hv
  obtain ⟨C0, hh, hR, rfl⟩ := ent B hml hst hv
  rw [lg_entry_eq]
  have hl := lv_entry ([.ref (ad 0 0)]) (n := 4) (Nat.le_of_ble_eq_true rfl)
  generalize (lg_sl ([.ref (ad 0 0)]) ++ List.replicate (4 - (lg_sl ([.ref (ad 0 0)])).length) Slot.unset).toArray = ls at hl ⊢
  exact b_X3_wornShare_0 C0 hR hout σ _ _ _ hh hl r0 h0

def rmX3_meanHardness : Room := { frames := 6, cells := 1, slots := 6, locals := 90 }
def f_X3_meanHardness_50 (rec6 : Sg → Int32 → Int32 → Int32 → Option ((Nat ⊕ UInt64) × Sg)) (σ : Sg) (x1 : Int32) (x2 : Int32) (x3 : Int32) : Option ((Nat ⊕ UInt64) × Sg) :=
  (rec6 σ x1 x2 (x3 + 1))
set_option maxRecDepth 100000 in
set_option maxHeartbeats 4000000 in
theorem b_X3_meanHardness_50 (C0 : Cx p l s m args meth c cX3_meanHardness 4 RX3 D cy n0) (hR : meth.sig.returnType = (some .double)) (hout : ∀ x ∈ c.exceptionTable.toList, False) (rec6 : Sg → Int32 → Int32 → Int32 → Option ((Nat ⊕ UInt64) × Sg)) (hrec6 : ∀ (σ : Sg) (x1 : Int32) (x2 : Int32) (x3 : Int32) (H : Heap) (locs : List Loc) (ls : Array Slot), Hp D cy n0 ad nT nO s σ H locs → lv_has ls 4 [(0, .ref (ad 0 0)), (1, .int x1), (2, .int x2), (3, .int x3)] → Sm (Qz below args s D cy n0 ad nT nO vD 1 6) (rec6 σ x1 x2 x3) p l e rmX3_meanHardness s m args below meth c H locs 0 0 (F0 m 6 ls [])) (σ : Sg) (x1 : Int32) (x2 : Int32) (x3 : Int32) (H : Heap) (locs : List Loc) (ls : Array Slot) (hh : Hp D cy n0 ad nT nO s σ H locs) (hl : lv_has ls 4 [(0, .ref (ad 0 0)), (1, .int x1), (2, .int x2), (3, .int x3)]) : Sm (Qz below args s D cy n0 ad nT nO vD 1 6) (f_X3_meanHardness_50 rec6 σ x1 x2 x3) p l e rmX3_meanHardness s m args below meth c H locs 0 0 (F0 m 50 ls []) := by
  unfold f_X3_meanHardness_50
  refine s_iinc (k := 3) (v := (x3 + 1)) (lv' := [(3, .int (x3 + 1)), (0, .ref (ad 0 0)), (1, .int x1), (2, .int x2)]) C0 dX3_meanHardness_50 hl rfl rfl (by decide) rfl (fun ls hl => ?_)
  refine s_goto (tgt := 6) C0 dX3_meanHardness_53 (by decide) ?_
  exact hrec6 σ x1 x2 (x3 + 1) _ _ _ hh (lv_sub hl [1, 2, 3, 0] rfl)
def g_X3_meanHardness_6 (rec6 : Sg → Int32 → Int32 → Int32 → Option ((Nat ⊕ UInt64) × Sg)) (σ : Sg) (x1 : Int32) (x2 : Int32) (x3 : Int32) : Option ((Nat ⊕ UInt64) × Sg) :=
  (if (8 : Int32) ≤ (x3 : Int32) then (if (x2 : Int32) = (0 : Int32) then (some (.inl 6, σ)) else (if (FP.ddiv (FP.i2d x1) (FP.i2d x2)) &&& 0x7fffffffffffffff ≤ 0x7ff0000000000000 then (some (.inr (FP.ddiv (FP.i2d x1) (FP.i2d x2)), σ)) else none)) else (if (x3 : Int32) < 0 ∨ 8 ≤ (x3 : Int32).toNatClampNeg then none else if σ.1 10 0 (x3 : Int32).toNatClampNeg = 0 then (f_X3_meanHardness_50 rec6 σ x1 x2 x3) else (if (x3 : Int32) < 0 ∨ 8 ≤ (x3 : Int32).toNatClampNeg then none else if σ.1 10 0 (x3 : Int32).toNatClampNeg = 0 then none else (if ((σ.1 1 (x3 : Int32).toNatClampNeg 4) : Int32) = (104 : Int32) then (if (x3 : Int32) < 0 ∨ 8 ≤ (x3 : Int32).toNatClampNeg then none else if σ.1 10 0 (x3 : Int32).toNatClampNeg = 0 then none else (f_X3_meanHardness_50 rec6 σ (x1 + (σ.1 1 (x3 : Int32).toNatClampNeg 7)) (x2 + 1) x3)) else (f_X3_meanHardness_50 rec6 σ x1 x2 x3)))))
def f_X3_meanHardness_6 : Nat → Sg → Int32 → Int32 → Int32 → Option ((Nat ⊕ UInt64) × Sg)
  | 0 => fun _ _ _ _ => none
  | n + 1 => fun σ x1 x2 x3 => g_X3_meanHardness_6 (f_X3_meanHardness_6 n) σ x1 x2 x3
set_option maxRecDepth 100000 in
set_option maxHeartbeats 4000000 in
theorem a_X3_meanHardness_6 (C0 : Cx p l s m args meth c cX3_meanHardness 4 RX3 D cy n0) (hR : meth.sig.returnType = (some .double)) (hout : ∀ x ∈ c.exceptionTable.toList, False) (rec6 : Sg → Int32 → Int32 → Int32 → Option ((Nat ⊕ UInt64) × Sg)) (hrec6 : ∀ (σ : Sg) (x1 : Int32) (x2 : Int32) (x3 : Int32) (H : Heap) (locs : List Loc) (ls : Array Slot), Hp D cy n0 ad nT nO s σ H locs → lv_has ls 4 [(0, .ref (ad 0 0)), (1, .int x1), (2, .int x2), (3, .int x3)] → Sm (Qz below args s D cy n0 ad nT nO vD 1 6) (rec6 σ x1 x2 x3) p l e rmX3_meanHardness s m args below meth c H locs 0 0 (F0 m 6 ls [])) (σ : Sg) (x1 : Int32) (x2 : Int32) (x3 : Int32) (H : Heap) (locs : List Loc) (ls : Array Slot) (hh : Hp D cy n0 ad nT nO s σ H locs) (hl : lv_has ls 4 [(0, .ref (ad 0 0)), (1, .int x1), (2, .int x2), (3, .int x3)]) : Sm (Qz below args s D cy n0 ad nT nO vD 1 6) (g_X3_meanHardness_6 rec6 σ x1 x2 x3) p l e rmX3_meanHardness s m args below meth c H locs 0 0 (F0 m 6 ls []) := by
  unfold g_X3_meanHardness_6
  refine s_iload_n C0 dX3_meanHardness_6 rfl (lv_at hl 3 rfl) ?_
  refine s_bipush (v := 8) C0 dX3_meanHardness_7 (by decide) ?_
  refine s_icmp_ge (tgt := 56) C0 dX3_meanHardness_9 (by decide) (fun _ => ?_) (fun _ => ?_)
  · refine s_iload_n C0 dX3_meanHardness_56 rfl (lv_at hl 2 rfl) ?_
    refine s_if_ne (tgt := 70) C0 dX3_meanHardness_57 (by decide) (fun _ => ?_) (fun _ => ?_)
    · refine s_iload_n C0 dX3_meanHardness_70 rfl (lv_at hl 1 rfl) ?_
      refine s_i2d C0 dX3_meanHardness_71 ?_
      refine s_iload_n C0 dX3_meanHardness_72 rfl (lv_at hl 2 rfl) ?_
      refine s_i2d C0 dX3_meanHardness_73 ?_
      refine s_ddiv C0 dX3_meanHardness_74 ?_
      exact s_dretx C0 hh hR (Nat.le_of_ble_eq_true rfl) (Nat.le_of_ble_eq_true rfl) dX3_meanHardness_75
    · exact s_thr (text := "no hard tools") C0 hh ax268 w266 w267 (by decide) hl.1 dX3_meanHardness_60 dX3_meanHardness_63 dX3_meanHardness_64 dX3_meanHardness_66 dX3_meanHardness_69 hout (Nat.le_of_ble_eq_true rfl) (Nat.le_of_ble_eq_true rfl) (Nat.le_of_ble_eq_true rfl) (Nat.le_of_ble_eq_true rfl) (Nat.le_of_ble_eq_true rfl) (Nat.le_of_ble_eq_true rfl)
  · refine s_aload_n C0 dX3_meanHardness_12 rfl (lv_at hl 0 rfl) ?_
    refine s_get (v := .ref (ad 10 0)) C0 hh (rl_b (by decide)) rfl (T := TX3) (N := 6) rfl hinX3 (by decide) w26 rfl dX3_meanHardness_13 ?_
    refine s_iload_n C0 dX3_meanHardness_16 rfl (lv_at hl 3 rfl) ?_
    refine s_aaldNUT (tgt := 50) C0 hh dX3_meanHardness_17 dX3_meanHardness_18 (by decide) (fun _ => ?_) (fun _ _ => ?_)
    · exact b_X3_meanHardness_50 C0 hR hout rec6 hrec6 σ x1 x2 x3 _ _ _ hh (lv_sub hl [0, 1, 2, 3] rfl)
    · refine s_aload_n C0 dX3_meanHardness_21 rfl (lv_at hl 0 rfl) ?_
      refine s_get (v := .ref (ad 10 0)) C0 hh (rl_b (by decide)) rfl (T := TX3) (N := 6) rfl hinX3 (by decide) w26 rfl dX3_meanHardness_22 ?_
      refine s_iload_n C0 dX3_meanHardness_25 rfl (lv_at hl 3 rfl) ?_
      refine s_aaldT C0 hh dX3_meanHardness_26 (fun hj2 => ?_)
      refine s_getN (v := .int (σ.1 1 (x3 : Int32).toNatClampNeg 4)) C0 hh (rl_1 hj2) rfl (T := TX2) (N := 14) rfl hinX2 (by decide) w161 rfl dX3_meanHardness_27 ?_
      refine s_bipush (v := 104) C0 dX3_meanHardness_30 (by decide) ?_
      refine s_icmp_ne (tgt := 50) C0 dX3_meanHardness_32 (by decide) (fun _ => ?_) (fun _ => ?_)
      · exact b_X3_meanHardness_50 C0 hR hout rec6 hrec6 σ x1 x2 x3 _ _ _ hh (lv_sub hl [0, 1, 2, 3] rfl)
      · refine s_iload_n C0 dX3_meanHardness_35 rfl (lv_at hl 1 rfl) ?_
        refine s_aload_n C0 dX3_meanHardness_36 rfl (lv_at hl 0 rfl) ?_
        refine s_get (v := .ref (ad 10 0)) C0 hh (rl_b (by decide)) rfl (T := TX3) (N := 6) rfl hinX3 (by decide) w26 rfl dX3_meanHardness_37 ?_
        refine s_iload_n C0 dX3_meanHardness_40 rfl (lv_at hl 3 rfl) ?_
        refine s_aaldT C0 hh dX3_meanHardness_41 (fun hj3 => ?_)
        refine s_getN (v := .int (σ.1 1 (x3 : Int32).toNatClampNeg 7)) C0 hh (rl_1 hj3) rfl (T := TX2) (N := 14) rfl hinX2 (by decide) w236 rfl dX3_meanHardness_42 ?_
        refine s_iadd C0 dX3_meanHardness_45 ?_
        refine s_istore_n (lv' := [(1, .int (x1 + (σ.1 1 (x3 : Int32).toNatClampNeg 7))), (0, .ref (ad 0 0)), (2, .int x2), (3, .int x3)]) C0 dX3_meanHardness_46 rfl hl (by decide) rfl (fun ls hl => ?_)
        refine s_iinc (k := 2) (v := (x2 + 1)) (lv' := [(2, .int (x2 + 1)), (1, .int (x1 + (σ.1 1 (x3 : Int32).toNatClampNeg 7))), (0, .ref (ad 0 0)), (3, .int x3)]) C0 dX3_meanHardness_47 hl rfl rfl (by decide) rfl (fun ls hl => ?_)
        exact b_X3_meanHardness_50 C0 hR hout rec6 hrec6 σ (x1 + (σ.1 1 (x3 : Int32).toNatClampNeg 7)) (x2 + 1) x3 _ _ _ hh (lv_sub hl [2, 1, 0, 3] rfl)
theorem b_X3_meanHardness_6 (C0 : Cx p l s m args meth c cX3_meanHardness 4 RX3 D cy n0) (hR : meth.sig.returnType = (some .double)) (hout : ∀ x ∈ c.exceptionTable.toList, False) : ∀ (n : Nat) (σ : Sg) (x1 : Int32) (x2 : Int32) (x3 : Int32) (H : Heap) (locs : List Loc) (ls : Array Slot) (hh : Hp D cy n0 ad nT nO s σ H locs) (hl : lv_has ls 4 [(0, .ref (ad 0 0)), (1, .int x1), (2, .int x2), (3, .int x3)]), Sm (Qz below args s D cy n0 ad nT nO vD 1 6) (f_X3_meanHardness_6 n σ x1 x2 x3) p l e rmX3_meanHardness s m args below meth c H locs 0 0 (F0 m 6 ls []) := by
  intro n
  induction n with
  | zero => intros; intro r h; cases h
  | succ n ih => intro σ x1 x2 x3 H locs ls hh hl; exact a_X3_meanHardness_6 C0 hR hout (f_X3_meanHardness_6 n) ih σ x1 x2 x3 H locs ls hh hl
def f_X3_meanHardness_0 (σ : Sg) : Option ((Nat ⊕ UInt64) × Sg) :=
  (f_X3_meanHardness_6 70 σ 0 0 0)
set_option maxRecDepth 100000 in
set_option maxHeartbeats 4000000 in
theorem b_X3_meanHardness_0 (C0 : Cx p l s m args meth c cX3_meanHardness 4 RX3 D cy n0) (hR : meth.sig.returnType = (some .double)) (hout : ∀ x ∈ c.exceptionTable.toList, False) (σ : Sg) (H : Heap) (locs : List Loc) (ls : Array Slot) (hh : Hp D cy n0 ad nT nO s σ H locs) (hl : lv_has ls 4 [(0, .ref (ad 0 0))]) : Sm (Qz below args s D cy n0 ad nT nO vD 1 6) (f_X3_meanHardness_0 σ) p l e rmX3_meanHardness s m args below meth c H locs 0 0 (F0 m 0 ls []) := by
  unfold f_X3_meanHardness_0
  refine s_iconst (v := 0) C0 dX3_meanHardness_0 (by decide) ?_
  refine s_istore_n (lv' := [(1, .int 0), (0, .ref (ad 0 0))]) C0 dX3_meanHardness_1 rfl hl (by decide) rfl (fun ls hl => ?_)
  refine s_iconst (v := 0) C0 dX3_meanHardness_2 (by decide) ?_
  refine s_istore_n (lv' := [(2, .int 0), (1, .int 0), (0, .ref (ad 0 0))]) C0 dX3_meanHardness_3 rfl hl (by decide) rfl (fun ls hl => ?_)
  refine s_iconst (v := 0) C0 dX3_meanHardness_4 (by decide) ?_
  refine s_istore_n (lv' := [(3, .int 0), (2, .int 0), (1, .int 0), (0, .ref (ad 0 0))]) C0 dX3_meanHardness_5 rfl hl (by decide) rfl (fun ls hl => ?_)
  exact b_X3_meanHardness_6 C0 hR hout 70 σ 0 0 0 _ _ _ hh (lv_sub hl [3, 2, 1, 0] rfl)
def f_X3_meanHardness (σ : Sg) : Option ((Nat ⊕ UInt64) × Sg) := f_X3_meanHardness_0 σ
set_option maxRecDepth 100000 in
set_option maxHeartbeats 4000000 in
theorem c_X3_meanHardness (hst : l.stackTraces = false) (σ : Sg) : CtX l yX3_meanHardness (wm yX3_meanHardness cX3_meanHardness 4 (some .double)) rmX3_meanHardness 1 6 vD [.ref (ad 0 0)] D cy n0 ad nT nO  σ (f_X3_meanHardness σ) := by
  intro r0 h0
  refine vx_ofW (cc := cX3_meanHardness) (maxL := 4) (ret := (some .double)) (by decide +kernel) rfl ?_
  intro p e s m args below meth c s₁ B hml hout hv
  obtain ⟨C0, hh, hR, rfl⟩ := ent B hml hst hv
  rw [lg_entry_eq]
  have hl := lv_entry ([.ref (ad 0 0)]) (n := 4) (Nat.le_of_ble_eq_true rfl)
  generalize (lg_sl ([.ref (ad 0 0)]) ++ List.replicate (4 - (lg_sl ([.ref (ad 0 0)])).length) Slot.unset).toArray = ls at hl ⊢
  exact b_X3_meanHardness_0 C0 hR hout σ _ _ _ hh hl r0 h0
theorem qc41 {R : Room} {s : State} {args : Array Value} (ht : ∀ w ∈ allw, w.before args s = true) (hR : (rmX2_addTo).frames + 1 ≤ R.frames ∧ 8 + (6 + 11) + (rmX2_addTo).locals ≤ R.locals) : CallW R s args RX3 RX2 233 yX2_addTo cX2_addTo 6 (some .long) (wm yX2_addTo cX2_addTo 6 (some .long)) rmX2_addTo 0 0 1 := cwV 1 ht (gd_of (fun _ h => h) _ (mV w275 w277 w278 w102 w276)) rfl rfl rfl (by decide +kernel) hR
def rmX3_checksum : Room := { frames := 1, cells := 0, slots := 0, locals := 25 }
def f_X3_checksum_32 (rec6 : Sg → Int64 → Int32 → Option (Int64 × Sg)) (σ : Sg) (x1 : Int64) (x3 : Int32) : Option (Int64 × Sg) :=
  (rec6 σ x1 (x3 + 1))
set_option maxRecDepth 100000 in
set_option maxHeartbeats 4000000 in
theorem b_X3_checksum_32 (C0 : Cx p l s m args meth c cX3_checksum 4 RX3 D cy n0) (hR : meth.sig.returnType = (some .long)) (rec6 : Sg → Int64 → Int32 → Option (Int64 × Sg)) (hrec6 : ∀ (σ : Sg) (x1 : Int64) (x3 : Int32) (H : Heap) (locs : List Loc) (ls : Array Slot), Hp D cy n0 ad nT nO s σ H locs → lv_has ls 4 [(0, .ref (ad 0 0)), (1, .long x1), (3, .int x3)] → Sm (Qr below args s D cy n0 ad nT nO vJ 0 0) (rec6 σ x1 x3) p l e rmX3_checksum s m args below meth c H locs 0 0 (F0 m 6 ls [])) (σ : Sg) (x1 : Int64) (x3 : Int32) (H : Heap) (locs : List Loc) (ls : Array Slot) (hh : Hp D cy n0 ad nT nO s σ H locs) (hl : lv_has ls 4 [(0, .ref (ad 0 0)), (1, .long x1), (3, .int x3)]) : Sm (Qr below args s D cy n0 ad nT nO vJ 0 0) (f_X3_checksum_32 rec6 σ x1 x3) p l e rmX3_checksum s m args below meth c H locs 0 0 (F0 m 32 ls []) := by
  unfold f_X3_checksum_32
  refine s_iinc (k := 2) (v := (x3 + 1)) (lv' := [(3, .int (x3 + 1)), (0, .ref (ad 0 0)), (1, .long x1)]) C0 dX3_checksum_32 hl rfl rfl (by decide) rfl (fun ls hl => ?_)
  refine s_goto (tgt := 6) C0 dX3_checksum_35 (by decide) ?_
  exact hrec6 σ x1 (x3 + 1) _ _ _ hh (lv_sub hl [1, 2, 0] rfl)
def g_X3_checksum_6 (rec6 : Sg → Int64 → Int32 → Option (Int64 × Sg)) (σ : Sg) (x1 : Int64) (x3 : Int32) : Option (Int64 × Sg) :=
  (if (8 : Int32) ≤ (x3 : Int32) then (some (((31 * x1) + σ.2.1), σ)) else (if (x3 : Int32) < 0 ∨ 8 ≤ (x3 : Int32).toNatClampNeg then none else if σ.1 10 0 (x3 : Int32).toNatClampNeg = 0 then (f_X3_checksum_32 rec6 σ x1 x3) else (if (x3 : Int32) < 0 ∨ 8 ≤ (x3 : Int32).toNatClampNeg then none else if σ.1 10 0 (x3 : Int32).toNatClampNeg = 0 then none else ((f_X2_addTo σ ((x3 : Int32).toNatClampNeg) x1).bind (fun r3 => (f_X3_checksum_32 rec6 r3.2 r3.1 x3))))))
def f_X3_checksum_6 : Nat → Sg → Int64 → Int32 → Option (Int64 × Sg)
  | 0 => fun _ _ _ => none
  | n + 1 => fun σ x1 x3 => g_X3_checksum_6 (f_X3_checksum_6 n) σ x1 x3
set_option maxRecDepth 100000 in
set_option maxHeartbeats 4000000 in
theorem a_X3_checksum_6 (C0 : Cx p l s m args meth c cX3_checksum 4 RX3 D cy n0) (hR : meth.sig.returnType = (some .long)) (rec6 : Sg → Int64 → Int32 → Option (Int64 × Sg)) (hrec6 : ∀ (σ : Sg) (x1 : Int64) (x3 : Int32) (H : Heap) (locs : List Loc) (ls : Array Slot), Hp D cy n0 ad nT nO s σ H locs → lv_has ls 4 [(0, .ref (ad 0 0)), (1, .long x1), (3, .int x3)] → Sm (Qr below args s D cy n0 ad nT nO vJ 0 0) (rec6 σ x1 x3) p l e rmX3_checksum s m args below meth c H locs 0 0 (F0 m 6 ls [])) (σ : Sg) (x1 : Int64) (x3 : Int32) (H : Heap) (locs : List Loc) (ls : Array Slot) (hh : Hp D cy n0 ad nT nO s σ H locs) (hl : lv_has ls 4 [(0, .ref (ad 0 0)), (1, .long x1), (3, .int x3)]) : Sm (Qr below args s D cy n0 ad nT nO vJ 0 0) (g_X3_checksum_6 rec6 σ x1 x3) p l e rmX3_checksum s m args below meth c H locs 0 0 (F0 m 6 ls []) := by
  unfold g_X3_checksum_6
  refine s_iload_n C0 dX3_checksum_6 rfl (lv_at hl 2 rfl) ?_
  refine s_bipush (v := 8) C0 dX3_checksum_7 (by decide) ?_
  refine s_icmp_ge (tgt := 38) C0 dX3_checksum_9 (by decide) (fun _ => ?_) (fun _ => ?_)
  · refine s_ldc2 (v := 31) C0 w274 dX3_checksum_38 ?_
    refine s_lload_n C0 dX3_checksum_41 rfl (lv_at hl 1 rfl) ?_
    refine s_lmul C0 dX3_checksum_42 ?_
    refine s_aload_n C0 dX3_checksum_43 rfl (lv_at hl 0 rfl) ?_
    refine s_get (v := .long σ.2.1) C0 hh (rl_b (by decide)) rfl (T := TX3) (N := 6) rfl hinX3 (by decide) w29 rfl dX3_checksum_44 ?_
    refine s_ladd C0 dX3_checksum_47 ?_
    exact s_lret C0 hh hR (Nat.le_of_ble_eq_true rfl) (Nat.le_of_ble_eq_true rfl) dX3_checksum_48
  · refine s_aload_n C0 dX3_checksum_12 rfl (lv_at hl 0 rfl) ?_
    refine s_get (v := .ref (ad 10 0)) C0 hh (rl_b (by decide)) rfl (T := TX3) (N := 6) rfl hinX3 (by decide) w26 rfl dX3_checksum_13 ?_
    refine s_iload_n C0 dX3_checksum_16 rfl (lv_at hl 2 rfl) ?_
    refine s_aaldNUT (tgt := 32) C0 hh dX3_checksum_17 dX3_checksum_18 (by decide) (fun _ => ?_) (fun _ _ => ?_)
    · exact b_X3_checksum_32 C0 hR rec6 hrec6 σ x1 x3 _ _ _ hh (lv_sub hl [0, 1, 2] rfl)
    · refine s_aload_n C0 dX3_checksum_21 rfl (lv_at hl 0 rfl) ?_
      refine s_get (v := .ref (ad 10 0)) C0 hh (rl_b (by decide)) rfl (T := TX3) (N := 6) rfl hinX3 (by decide) w26 rfl dX3_checksum_22 ?_
      refine s_iload_n C0 dX3_checksum_25 rfl (lv_at hl 2 rfl) ?_
      refine s_aaldT C0 hh dX3_checksum_26 (fun hj2 => ?_)
      refine s_lload_n C0 dX3_checksum_27 rfl (lv_at hl 1 rfl) ?_
      refine s_V (As := [.long x1]) (rest := []) C0 hh (c_X2_addTo C0.2.2.2.2.2.2 _ ((x3 : Int32).toNatClampNeg) x1 hj2) (qc41 C0.1.2.2.2.2 ⟨Nat.le_of_ble_eq_true rfl, Nat.le_of_ble_eq_true rfl⟩) (rl_1 hj2) rfl rfl rfl hl.1 rfl (lv_room (Nat.le_of_ble_eq_true rfl)) dX3_checksum_28 ⟨Nat.le_of_ble_eq_true rfl, Nat.le_of_ble_eq_true rfl⟩ (fun r3 H locs hor3 hh => ?_)
      refine s_lstore_n (lv' := [(1, .long r3.1), (0, .ref (ad 0 0)), (3, .int x3)]) C0 dX3_checksum_31 rfl hl (by decide) rfl (fun ls hl => ?_)
      exact b_X3_checksum_32 C0 hR rec6 hrec6 r3.2 r3.1 x3 _ _ _ hh (lv_sub hl [1, 0, 2] rfl)
theorem b_X3_checksum_6 (C0 : Cx p l s m args meth c cX3_checksum 4 RX3 D cy n0) (hR : meth.sig.returnType = (some .long)) : ∀ (n : Nat) (σ : Sg) (x1 : Int64) (x3 : Int32) (H : Heap) (locs : List Loc) (ls : Array Slot) (hh : Hp D cy n0 ad nT nO s σ H locs) (hl : lv_has ls 4 [(0, .ref (ad 0 0)), (1, .long x1), (3, .int x3)]), Sm (Qr below args s D cy n0 ad nT nO vJ 0 0) (f_X3_checksum_6 n σ x1 x3) p l e rmX3_checksum s m args below meth c H locs 0 0 (F0 m 6 ls []) := by
  intro n
  induction n with
  | zero => intros; intro r h; cases h
  | succ n ih => intro σ x1 x3 H locs ls hh hl; exact a_X3_checksum_6 C0 hR (f_X3_checksum_6 n) ih σ x1 x3 H locs ls hh hl
def f_X3_checksum_0 (σ : Sg) : Option (Int64 × Sg) :=
  (f_X3_checksum_6 70 σ 7 0)
set_option maxRecDepth 100000 in
set_option maxHeartbeats 4000000 in
theorem b_X3_checksum_0 (C0 : Cx p l s m args meth c cX3_checksum 4 RX3 D cy n0) (hR : meth.sig.returnType = (some .long)) (σ : Sg) (H : Heap) (locs : List Loc) (ls : Array Slot) (hh : Hp D cy n0 ad nT nO s σ H locs) (hl : lv_has ls 4 [(0, .ref (ad 0 0))]) : Sm (Qr below args s D cy n0 ad nT nO vJ 0 0) (f_X3_checksum_0 σ) p l e rmX3_checksum s m args below meth c H locs 0 0 (F0 m 0 ls []) := by
  unfold f_X3_checksum_0
  refine s_ldc2 (v := 7) C0 w273 dX3_checksum_0 ?_
  refine s_lstore_n (lv' := [(1, .long 7), (0, .ref (ad 0 0))]) C0 dX3_checksum_3 rfl hl (by decide) rfl (fun ls hl => ?_)
  refine s_iconst (v := 0) C0 dX3_checksum_4 (by decide) ?_
  refine s_istore_n (lv' := [(3, .int 0), (1, .long 7), (0, .ref (ad 0 0))]) C0 dX3_checksum_5 rfl hl (by decide) rfl (fun ls hl => ?_)
  exact b_X3_checksum_6 C0 hR 70 σ 7 0 _ _ _ hh (lv_sub hl [2, 1, 0] rfl)
def f_X3_checksum (σ : Sg) : Option (Int64 × Sg) := f_X3_checksum_0 σ
set_option maxRecDepth 100000 in
set_option maxHeartbeats 4000000 in
theorem c_X3_checksum (hst : l.stackTraces = false) (σ : Sg) : Ct l yX3_checksum (wm yX3_checksum cX3_checksum 4 (some .long)) rmX3_checksum 0 0 vJ [.ref (ad 0 0)] D cy n0 ad nT nO  σ (f_X3_checksum σ) := by
  intro r0 h0
  refine Met.ofW (cc := cX3_checksum) (maxL := 4) (ret := (some .long)) (by decide +kernel) rfl ?_
  intro p e s m args below meth c s₁ B hml hv
  obtain ⟨C0, hh, hR, rfl⟩ := ent B hml hst hv
  rw [lg_entry_eq]
  have hl := lv_entry ([.ref (ad 0 0)]) (n := 4) (Nat.le_of_ble_eq_true rfl)
  generalize (lg_sl ([.ref (ad 0 0)]) ++ List.replicate (4 - (lg_sl ([.ref (ad 0 0)])).length) Slot.unset).toArray = ls at hl ⊢
  exact b_X3_checksum_0 C0 hR σ _ _ _ hh hl r0 h0
theorem qc42 {R : Room} {s : State} {args : Array Value} (ht : ∀ w ∈ allw, w.before args s = true) (hR : (rmX1_become).frames + 1 ≤ R.frames ∧ 8 + (2 + 11) + (rmX1_become).locals ≤ R.locals) : CallW R s args RX3 RX1 255 yX1_become cX1_become 2 none (wm yX1_become cX1_become 2 none) rmX1_become 0 0 1 := cwV 1 ht (gd_of (fun _ h => h) _ (mV w279 w281 w282 w15 w280)) rfl rfl rfl (by decide +kernel) hR
theorem qc43 {R : Room} {s : State} {args : Array Value} (ht : ∀ w ∈ allw, w.before args s = true) (hR : (rmX1_stroke).frames + 1 ≤ R.frames ∧ 8 + (7 + 11) + (rmX1_stroke).locals ≤ R.locals) : CallW R s args RX3 RX1 259 yX1_stroke cX1_stroke 7 (some .int) (wm yX1_stroke cX1_stroke 7 (some .int)) rmX1_stroke 0 0 3 := cwV 3 ht (gd_of (fun _ h => h) _ (mV w283 w136 w137 w15 w135)) rfl rfl rfl (by decide +kernel) hR
theorem qc44 {R : Room} {s : State} {args : Array Value} (ht : ∀ w ∈ allw, w.before args s = true) (hR : (rmX3_biteOf).frames + 1 ≤ R.frames ∧ 8 + (2 + 11) + (rmX3_biteOf).locals ≤ R.locals) : CallB R s args RX3 263 yX3_biteOf cX3_biteOf 2 (some .int) (wm yX3_biteOf cX3_biteOf 2 (some .int)) rmX3_biteOf 0 0 2 ∧ (Cond.static yX3_biteOf).before args s = true := cwS 2 ht (gd_of (fun _ h => h) _ (mS w284 w76 w64 w75)) rfl rfl rfl (by decide +kernel) hR
theorem qc45 {R : Room} {s : State} {args : Array Value} (ht : ∀ w ∈ allw, w.before args s = true) (hR : (rmX1_biteAhead).frames + 1 ≤ R.frames ∧ 8 + (5 + 11) + (rmX1_biteAhead).locals ≤ R.locals) : CallW R s args RX3 RX1 266 yX1_biteAhead cX1_biteAhead 5 (some .int) (wm yX1_biteAhead cX1_biteAhead 5 (some .int)) rmX1_biteAhead 0 0 2 := cwV 2 ht (gd_of (fun _ h => h) _ (mV w285 w287 w288 w15 w286)) rfl rfl rfl (by decide +kernel) hR
def rmX3_strokesOnCopyAsDue : Room := { frames := 3, cells := 0, slots := 0, locals := 81 }
def f_X3_strokesOnCopyAsDue_0 (σ : Sg) (i1 : Nat) : Option (Int32 × Sg) :=
  ((f_X2_holds σ i1).bind (fun r1 => ((f_X1_become r1.2 8 i1).bind (fun r2 => ((f_X1_stroke r2.2 8 (r2.2.1 1 i1 7) 1 (r1.1 - (r1.2.1 1 i1 10))).bind (fun r3 => ((f_X3_biteOf r3.2 (r3.2.1 1 i1 7) 1).bind (fun r4 => ((f_X1_biteAhead r4.2 i1 r4.1 (r1.1 - (r1.2.1 1 i1 10))).bind (fun r5 => (if (r3.1 : Int32) = r5.1 then (some (1, r5.2)) else (some (0, r5.2)))))))))))))
set_option maxRecDepth 100000 in
set_option maxHeartbeats 4000000 in
theorem b_X3_strokesOnCopyAsDue_0 (C0 : Cx p l s m args meth c cX3_strokesOnCopyAsDue 4 RX3 D cy n0) (hR : meth.sig.returnType = (some .boolean)) (σ : Sg) (i1 : Nat) (hi1 : i1 < nT) (H : Heap) (locs : List Loc) (ls : Array Slot) (hh : Hp D cy n0 ad nT nO s σ H locs) (hl : lv_has ls 4 [(0, .ref (ad 0 0)), (1, .ref (ad 1 i1))]) : Sm (Qr below args s D cy n0 ad nT nO vI 0 0) (f_X3_strokesOnCopyAsDue_0 σ i1) p l e rmX3_strokesOnCopyAsDue s m args below meth c H locs 0 0 (F0 m 0 ls []) := by
  unfold f_X3_strokesOnCopyAsDue_0
  refine s_aload_n C0 dX3_strokesOnCopyAsDue_0 rfl (lv_at hl 1 rfl) ?_
  refine s_V (As := []) (rest := []) C0 hh (c_X2_holds C0.2.2.2.2.2.2 _ i1 hi1) (qc30 C0.1.2.2.2.2 ⟨Nat.le_of_ble_eq_true rfl, Nat.le_of_ble_eq_true rfl⟩) (rl_1 hi1) rfl rfl rfl hl.1 rfl (lv_room (Nat.le_of_ble_eq_true rfl)) dX3_strokesOnCopyAsDue_1 ⟨Nat.le_of_ble_eq_true rfl, Nat.le_of_ble_eq_true rfl⟩ (fun r1 H locs hor1 hh => ?_)
  refine s_aload_n C0 dX3_strokesOnCopyAsDue_4 rfl (lv_at hl 1 rfl) ?_
  refine s_getN (v := .int (r1.2.1 1 i1 10)) C0 hh (rl_1 hi1) rfl (T := TX2) (N := 14) rfl hinX2 (by decide) w248 rfl dX3_strokesOnCopyAsDue_5 ?_
  refine s_isub C0 dX3_strokesOnCopyAsDue_8 ?_
  refine s_istore_n (lv' := [(2, .int (r1.1 - (r1.2.1 1 i1 10))), (0, .ref (ad 0 0)), (1, .ref (ad 1 i1))]) C0 dX3_strokesOnCopyAsDue_9 rfl hl (by decide) rfl (fun ls hl => ?_)
  refine s_aload_n C0 dX3_strokesOnCopyAsDue_10 rfl (lv_at hl 1 rfl) ?_
  refine s_get (v := .ref (ad 2 8)) C0 hh (rl_b (by decide)) rfl (T := TX3) (N := 6) rfl hinX3 (by decide) w32 rfl dX3_strokesOnCopyAsDue_11 ?_
  refine s_aload_n C0 dX3_strokesOnCopyAsDue_14 rfl (lv_at hl 2 rfl) ?_
  refine s_getN (v := .ref (ad 2 i1)) C0 hh (rl_1 hi1) rfl (T := TX2) (N := 14) rfl hinX2 (by decide) w199 rfl dX3_strokesOnCopyAsDue_15 ?_
  refine s_V (As := [.ref (ad 2 i1)]) (rest := []) C0 hh (c_X1_become C0.2.2.2.2.2.2 _ 8 i1 (Or.inr rfl) (Or.inl hi1)) (qc42 C0.1.2.2.2.2 ⟨Nat.le_of_ble_eq_true rfl, Nat.le_of_ble_eq_true rfl⟩) (rl_b (by decide)) rfl rfl rfl hl.1 rfl (lv_room (Nat.le_of_ble_eq_true rfl)) dX3_strokesOnCopyAsDue_18 ⟨Nat.le_of_ble_eq_true rfl, Nat.le_of_ble_eq_true rfl⟩ (fun r2 H locs hor2 hh => ?_)
  refine s_aload_n C0 dX3_strokesOnCopyAsDue_21 rfl (lv_at hl 1 rfl) ?_
  refine s_get (v := .ref (ad 2 8)) C0 hh (rl_b (by decide)) rfl (T := TX3) (N := 6) rfl hinX3 (by decide) w32 rfl dX3_strokesOnCopyAsDue_22 ?_
  refine s_aload_n C0 dX3_strokesOnCopyAsDue_25 rfl (lv_at hl 2 rfl) ?_
  refine s_getN (v := .int (r2.2.1 1 i1 7)) C0 hh (rl_1 hi1) rfl (T := TX2) (N := 14) rfl hinX2 (by decide) w236 rfl dX3_strokesOnCopyAsDue_26 ?_
  refine s_iconst (v := 1) C0 dX3_strokesOnCopyAsDue_29 (by decide) ?_
  refine s_iload_n C0 dX3_strokesOnCopyAsDue_30 rfl (lv_at hl 0 rfl) ?_
  refine s_V (As := [.int (r2.2.1 1 i1 7), .int 1, .int (r1.1 - (r1.2.1 1 i1 10))]) (rest := []) C0 hh (c_X1_stroke C0.2.2.2.2.2.2 _ 8 (r2.2.1 1 i1 7) 1 (r1.1 - (r1.2.1 1 i1 10)) (Or.inr rfl)) (qc43 C0.1.2.2.2.2 ⟨Nat.le_of_ble_eq_true rfl, Nat.le_of_ble_eq_true rfl⟩) (rl_b (by decide)) rfl rfl rfl hl.1 rfl (lv_room (Nat.le_of_ble_eq_true rfl)) dX3_strokesOnCopyAsDue_31 ⟨Nat.le_of_ble_eq_true rfl, Nat.le_of_ble_eq_true rfl⟩ (fun r3 H locs hor3 hh => ?_)
  refine s_istore_n (lv' := [(3, .int r3.1), (2, .int (r1.1 - (r1.2.1 1 i1 10))), (0, .ref (ad 0 0)), (1, .ref (ad 1 i1))]) C0 dX3_strokesOnCopyAsDue_34 rfl hl (by decide) rfl (fun ls hl => ?_)
  refine s_iload_n C0 dX3_strokesOnCopyAsDue_35 rfl (lv_at hl 0 rfl) ?_
  refine s_aload_n C0 dX3_strokesOnCopyAsDue_36 rfl (lv_at hl 3 rfl) ?_
  refine s_getN (v := .ref (ad 2 i1)) C0 hh (rl_1 hi1) rfl (T := TX2) (N := 14) rfl hinX2 (by decide) w199 rfl dX3_strokesOnCopyAsDue_37 ?_
  refine s_aload_n C0 dX3_strokesOnCopyAsDue_40 rfl (lv_at hl 3 rfl) ?_
  refine s_getN (v := .int (r3.2.1 1 i1 7)) C0 hh (rl_1 hi1) rfl (T := TX2) (N := 14) rfl hinX2 (by decide) w236 rfl dX3_strokesOnCopyAsDue_41 ?_
  refine s_iconst (v := 1) C0 dX3_strokesOnCopyAsDue_44 (by decide) ?_
  refine s_S (As := [.int (r3.2.1 1 i1 7), .int 1]) (rest := [.ref (ad 2 i1), .int r3.1]) C0 hh (c_X3_biteOf C0.2.2.2.2.2.2 _ (r3.2.1 1 i1 7) 1) (qc44 C0.1.2.2.2.2 ⟨Nat.le_of_ble_eq_true rfl, Nat.le_of_ble_eq_true rfl⟩) rfl hl.1 rfl (lv_room (Nat.le_of_ble_eq_true rfl)) dX3_strokesOnCopyAsDue_45 ⟨Nat.le_of_ble_eq_true rfl, Nat.le_of_ble_eq_true rfl⟩ (fun r4 H locs hor4 hh => ?_)
  refine s_iload_n C0 dX3_strokesOnCopyAsDue_48 rfl (lv_at hl 1 rfl) ?_
  refine s_V (As := [.int r4.1, .int (r1.1 - (r1.2.1 1 i1 10))]) (rest := [.int r3.1]) C0 hh (c_X1_biteAhead C0.2.2.2.2.2.2 _ i1 r4.1 (r1.1 - (r1.2.1 1 i1 10)) (Or.inl hi1)) (qc45 C0.1.2.2.2.2 ⟨Nat.le_of_ble_eq_true rfl, Nat.le_of_ble_eq_true rfl⟩) (rl_2 (Or.inl hi1)) rfl rfl rfl hl.1 rfl (lv_room (Nat.le_of_ble_eq_true rfl)) dX3_strokesOnCopyAsDue_49 ⟨Nat.le_of_ble_eq_true rfl, Nat.le_of_ble_eq_true rfl⟩ (fun r5 H locs hor5 hh => ?_)
  refine s_icmp_ne (tgt := 59) C0 dX3_strokesOnCopyAsDue_52 (by decide) (fun _ => ?_) (fun _ => ?_)
  · refine s_iconst (v := 0) C0 dX3_strokesOnCopyAsDue_59 (by decide) ?_
    exact s_iret C0 hh hR narrow_b0 (Nat.le_of_ble_eq_true rfl) (Nat.le_of_ble_eq_true rfl) dX3_strokesOnCopyAsDue_60
  · refine s_iconst (v := 1) C0 dX3_strokesOnCopyAsDue_55 (by decide) ?_
    refine s_goto (tgt := 60) C0 dX3_strokesOnCopyAsDue_56 (by decide) ?_
    exact s_iret C0 hh hR narrow_b1 (Nat.le_of_ble_eq_true rfl) (Nat.le_of_ble_eq_true rfl) dX3_strokesOnCopyAsDue_60
def f_X3_strokesOnCopyAsDue (σ : Sg) (i1 : Nat) : Option (Int32 × Sg) := f_X3_strokesOnCopyAsDue_0 σ i1
set_option maxRecDepth 100000 in
set_option maxHeartbeats 4000000 in
theorem c_X3_strokesOnCopyAsDue (hst : l.stackTraces = false) (σ : Sg) (i1 : Nat) (hi1 : i1 < nT) : Ct l yX3_strokesOnCopyAsDue (wm yX3_strokesOnCopyAsDue cX3_strokesOnCopyAsDue 4 (some .boolean)) rmX3_strokesOnCopyAsDue 0 0 vI [.ref (ad 0 0), .ref (ad 1 i1)] D cy n0 ad nT nO  σ (f_X3_strokesOnCopyAsDue σ i1) := by
  intro r0 h0
  refine Met.ofW (cc := cX3_strokesOnCopyAsDue) (maxL := 4) (ret := (some .boolean)) (by decide +kernel) rfl ?_
  intro p e s m args below meth c s₁ B hml hv
  obtain ⟨C0, hh, hR, rfl⟩ := ent B hml hst hv
  rw [lg_entry_eq]
  have hl := lv_entry ([.ref (ad 0 0), .ref (ad 1 i1)]) (n := 4) (Nat.le_of_ble_eq_true rfl)
  generalize (lg_sl ([.ref (ad 0 0), .ref (ad 1 i1)]) ++ List.replicate (4 - (lg_sl ([.ref (ad 0 0), .ref (ad 1 i1)])).length) Slot.unset).toArray = ls at hl ⊢
  exact b_X3_strokesOnCopyAsDue_0 C0 hR σ i1 hi1 _ _ _ hh hl r0 h0
theorem qc46 {R : Room} {s : State} {args : Array Value} (ht : ∀ w ∈ allw, w.before args s = true) (hR : (rmX1_placesAreDue).frames + 1 ≤ R.frames ∧ 8 + (4 + 11) + (rmX1_placesAreDue).locals ≤ R.locals) : CallW R s args RX3 RX1 242 yX1_placesAreDue cX1_placesAreDue 4 (some .boolean) (wm yX1_placesAreDue cX1_placesAreDue 4 (some .boolean)) rmX1_placesAreDue 0 0 1 := cwV 1 ht (gd_of (fun _ h => h) _ (mV w289 w291 w292 w15 w290)) rfl rfl rfl (by decide +kernel) hR
theorem qc47 {R : Room} {s : State} {args : Array Value} (ht : ∀ w ∈ allw, w.before args s = true) (hR : (rmX2_oneMoreBite).frames + 1 ≤ R.frames ∧ 8 + (1 + 11) + (rmX2_oneMoreBite).locals ≤ R.locals) : CallW R s args RX3 RX2 249 yX2_oneMoreBite cX2_oneMoreBite 1 (some .int) (wm yX2_oneMoreBite cX2_oneMoreBite 1 (some .int)) rmX2_oneMoreBite 0 0 0 := cwV 0 ht (gd_of (fun _ h => h) _ (mV w294 w296 w297 w102 w295)) rfl rfl rfl (by decide +kernel) hR
theorem qc48 {R : Room} {s : State} {args : Array Value} (ht : ∀ w ∈ allw, w.before args s = true) (hR : (rmX3_strokesOnCopyAsDue).frames + 1 ≤ R.frames ∧ 8 + (4 + 11) + (rmX3_strokesOnCopyAsDue).locals ≤ R.locals) : CallW R s args RX3 RX3 252 yX3_strokesOnCopyAsDue cX3_strokesOnCopyAsDue 4 (some .boolean) (wm yX3_strokesOnCopyAsDue cX3_strokesOnCopyAsDue 4 (some .boolean)) rmX3_strokesOnCopyAsDue 0 0 1 := cwV 1 ht (gd_of (fun _ h => h) _ (mV w298 w300 w301 w64 w299)) rfl rfl rfl (by decide +kernel) hR
def rmX3_isSoundTool : Room := { frames := 4, cells := 0, slots := 0, locals := 104 }
def f_X3_isSoundTool_64 (σ : Sg) : Option (Int32 × Sg) :=
  (some (1, σ))
set_option maxRecDepth 100000 in
set_option maxHeartbeats 4000000 in
theorem b_X3_isSoundTool_64 (C0 : Cx p l s m args meth c cX3_isSoundTool 2 RX3 D cy n0) (hR : meth.sig.returnType = (some .boolean)) (σ : Sg) (H : Heap) (locs : List Loc) (ls : Array Slot) (hh : Hp D cy n0 ad nT nO s σ H locs) (hl : lv_has ls 2 []) : Sm (Qr below args s D cy n0 ad nT nO vI 0 0) (f_X3_isSoundTool_64 σ) p l e rmX3_isSoundTool s m args below meth c H locs 0 0 (F0 m 64 ls []) := by
  unfold f_X3_isSoundTool_64
  refine s_iconst (v := 1) C0 dX3_isSoundTool_64 (by decide) ?_
  refine s_goto (tgt := 69) C0 dX3_isSoundTool_65 (by decide) ?_
  exact s_iret C0 hh hR narrow_b1 (Nat.le_of_ble_eq_true rfl) (Nat.le_of_ble_eq_true rfl) dX3_isSoundTool_69
def f_X3_isSoundTool_0 (σ : Sg) (i1 : Nat) : Option (Int32 × Sg) :=
  ((f_X1_placesAreDue σ i1 (σ.1 1 i1 1)).bind (fun r1 => (if (r1.1 : Int32) = (0 : Int32) then (some (0, r1.2)) else ((f_X1_highest r1.2 i1).bind (fun r2 => (if (r2.2.1 2 i1 1) < (r2.1 : Int32) then (some (0, r2.2)) else ((f_X2_holds r2.2 i1).bind (fun r3 => ((f_X2_oneMoreBite r3.2 i1).bind (fun r4 => (if (r3.1 + r4.1) < ((r2.2.1 1 i1 10) : Int32) then (some (0, r4.2)) else (if ((r4.2.1 1 i1 4) : Int32) = (104 : Int32) then ((f_X3_strokesOnCopyAsDue r4.2 i1).bind (fun r5 => (if (r5.1 : Int32) = (0 : Int32) then (some (0, r5.2)) else (f_X3_isSoundTool_64 r5.2)))) else (f_X3_isSoundTool_64 r4.2)))))))))))))
set_option maxRecDepth 100000 in
set_option maxHeartbeats 4000000 in
theorem b_X3_isSoundTool_0 (C0 : Cx p l s m args meth c cX3_isSoundTool 2 RX3 D cy n0) (hR : meth.sig.returnType = (some .boolean)) (σ : Sg) (i1 : Nat) (hi1 : i1 < nT) (H : Heap) (locs : List Loc) (ls : Array Slot) (hh : Hp D cy n0 ad nT nO s σ H locs) (hl : lv_has ls 2 [(0, .ref (ad 0 0)), (1, .ref (ad 1 i1))]) : Sm (Qr below args s D cy n0 ad nT nO vI 0 0) (f_X3_isSoundTool_0 σ i1) p l e rmX3_isSoundTool s m args below meth c H locs 0 0 (F0 m 0 ls []) := by
  unfold f_X3_isSoundTool_0
  refine s_aload_n C0 dX3_isSoundTool_0 rfl (lv_at hl 1 rfl) ?_
  refine s_getN (v := .ref (ad 2 i1)) C0 hh (rl_1 hi1) rfl (T := TX2) (N := 14) rfl hinX2 (by decide) w199 rfl dX3_isSoundTool_1 ?_
  refine s_aload_n C0 dX3_isSoundTool_4 rfl (lv_at hl 1 rfl) ?_
  refine s_getN (v := .int (σ.1 1 i1 1)) C0 hh (rl_1 hi1) rfl (T := TX2) (N := 14) rfl hinX2 (by decide) w201 rfl dX3_isSoundTool_5 ?_
  refine s_V (As := [.int (σ.1 1 i1 1)]) (rest := []) C0 hh (c_X1_placesAreDue C0.2.2.2.2.2.2 _ i1 (σ.1 1 i1 1) (Or.inl hi1)) (qc46 C0.1.2.2.2.2 ⟨Nat.le_of_ble_eq_true rfl, Nat.le_of_ble_eq_true rfl⟩) (rl_2 (Or.inl hi1)) rfl rfl rfl hl.1 rfl (lv_room (Nat.le_of_ble_eq_true rfl)) dX3_isSoundTool_8 ⟨Nat.le_of_ble_eq_true rfl, Nat.le_of_ble_eq_true rfl⟩ (fun r1 H locs hor1 hh => ?_)
  refine s_if_eq (tgt := 68) C0 dX3_isSoundTool_11 (by decide) (fun _ => ?_) (fun _ => ?_)
  · refine s_iconst (v := 0) C0 dX3_isSoundTool_68 (by decide) ?_
    exact s_iret C0 hh hR narrow_b0 (Nat.le_of_ble_eq_true rfl) (Nat.le_of_ble_eq_true rfl) dX3_isSoundTool_69
  · refine s_aload_n C0 dX3_isSoundTool_14 rfl (lv_at hl 1 rfl) ?_
    refine s_getN (v := .ref (ad 2 i1)) C0 hh (rl_1 hi1) rfl (T := TX2) (N := 14) rfl hinX2 (by decide) w199 rfl dX3_isSoundTool_15 ?_
    refine s_V (As := []) (rest := []) C0 hh (c_X1_highest C0.2.2.2.2.2.2 _ i1 (Or.inl hi1)) (qc26 C0.1.2.2.2.2 ⟨Nat.le_of_ble_eq_true rfl, Nat.le_of_ble_eq_true rfl⟩) (rl_2 (Or.inl hi1)) rfl rfl rfl hl.1 rfl (lv_room (Nat.le_of_ble_eq_true rfl)) dX3_isSoundTool_18 ⟨Nat.le_of_ble_eq_true rfl, Nat.le_of_ble_eq_true rfl⟩ (fun r2 H locs hor2 hh => ?_)
    refine s_aload_n C0 dX3_isSoundTool_21 rfl (lv_at hl 1 rfl) ?_
    refine s_getN (v := .ref (ad 2 i1)) C0 hh (rl_1 hi1) rfl (T := TX2) (N := 14) rfl hinX2 (by decide) w199 rfl dX3_isSoundTool_22 ?_
    refine s_getN (v := .int (r2.2.1 2 i1 1)) C0 hh (rl_2 (Or.inl hi1)) rfl (T := TX1) (N := 8) rfl hinX1 (by decide) w293 rfl dX3_isSoundTool_25 ?_
    refine s_icmp_gt (tgt := 68) C0 dX3_isSoundTool_28 (by decide) (fun _ => ?_) (fun _ => ?_)
    · refine s_iconst (v := 0) C0 dX3_isSoundTool_68 (by decide) ?_
      exact s_iret C0 hh hR narrow_b0 (Nat.le_of_ble_eq_true rfl) (Nat.le_of_ble_eq_true rfl) dX3_isSoundTool_69
    · refine s_aload_n C0 dX3_isSoundTool_31 rfl (lv_at hl 1 rfl) ?_
      refine s_getN (v := .int (r2.2.1 1 i1 10)) C0 hh (rl_1 hi1) rfl (T := TX2) (N := 14) rfl hinX2 (by decide) w248 rfl dX3_isSoundTool_32 ?_
      refine s_aload_n C0 dX3_isSoundTool_35 rfl (lv_at hl 1 rfl) ?_
      refine s_V (As := []) (rest := [.int (r2.2.1 1 i1 10)]) C0 hh (c_X2_holds C0.2.2.2.2.2.2 _ i1 hi1) (qc30 C0.1.2.2.2.2 ⟨Nat.le_of_ble_eq_true rfl, Nat.le_of_ble_eq_true rfl⟩) (rl_1 hi1) rfl rfl rfl hl.1 rfl (lv_room (Nat.le_of_ble_eq_true rfl)) dX3_isSoundTool_36 ⟨Nat.le_of_ble_eq_true rfl, Nat.le_of_ble_eq_true rfl⟩ (fun r3 H locs hor3 hh => ?_)
      refine s_aload_n C0 dX3_isSoundTool_39 rfl (lv_at hl 1 rfl) ?_
      refine s_V (As := []) (rest := [.int r3.1, .int (r2.2.1 1 i1 10)]) C0 hh (c_X2_oneMoreBite C0.2.2.2.2.2.2 _ i1 hi1) (qc47 C0.1.2.2.2.2 ⟨Nat.le_of_ble_eq_true rfl, Nat.le_of_ble_eq_true rfl⟩) (rl_1 hi1) rfl rfl rfl hl.1 rfl (lv_room (Nat.le_of_ble_eq_true rfl)) dX3_isSoundTool_40 ⟨Nat.le_of_ble_eq_true rfl, Nat.le_of_ble_eq_true rfl⟩ (fun r4 H locs hor4 hh => ?_)
      refine s_iadd C0 dX3_isSoundTool_43 ?_
      refine s_icmp_gt (tgt := 68) C0 dX3_isSoundTool_44 (by decide) (fun _ => ?_) (fun _ => ?_)
      · refine s_iconst (v := 0) C0 dX3_isSoundTool_68 (by decide) ?_
        exact s_iret C0 hh hR narrow_b0 (Nat.le_of_ble_eq_true rfl) (Nat.le_of_ble_eq_true rfl) dX3_isSoundTool_69
      · refine s_aload_n C0 dX3_isSoundTool_47 rfl (lv_at hl 1 rfl) ?_
        refine s_getN (v := .int (r4.2.1 1 i1 4)) C0 hh (rl_1 hi1) rfl (T := TX2) (N := 14) rfl hinX2 (by decide) w161 rfl dX3_isSoundTool_48 ?_
        refine s_bipush (v := 104) C0 dX3_isSoundTool_51 (by decide) ?_
        refine s_icmp_ne (tgt := 64) C0 dX3_isSoundTool_53 (by decide) (fun _ => ?_) (fun _ => ?_)
        · exact b_X3_isSoundTool_64 C0 hR r4.2 _ _ _ hh ⟨hl.1, hl.2.1, fun _ h => nomatch h⟩
        · refine s_aload_n C0 dX3_isSoundTool_56 rfl (lv_at hl 0 rfl) ?_
          refine s_aload_n C0 dX3_isSoundTool_57 rfl (lv_at hl 1 rfl) ?_
          refine s_V (As := [.ref (ad 1 i1)]) (rest := []) C0 hh (c_X3_strokesOnCopyAsDue C0.2.2.2.2.2.2 _ i1 hi1) (qc48 C0.1.2.2.2.2 ⟨Nat.le_of_ble_eq_true rfl, Nat.le_of_ble_eq_true rfl⟩) (rl_b (by decide)) rfl rfl rfl hl.1 rfl (lv_room (Nat.le_of_ble_eq_true rfl)) dX3_isSoundTool_58 ⟨Nat.le_of_ble_eq_true rfl, Nat.le_of_ble_eq_true rfl⟩ (fun r5 H locs hor5 hh => ?_)
          refine s_if_eq (tgt := 68) C0 dX3_isSoundTool_61 (by decide) (fun _ => ?_) (fun _ => ?_)
          · refine s_iconst (v := 0) C0 dX3_isSoundTool_68 (by decide) ?_
            exact s_iret C0 hh hR narrow_b0 (Nat.le_of_ble_eq_true rfl) (Nat.le_of_ble_eq_true rfl) dX3_isSoundTool_69
          · exact b_X3_isSoundTool_64 C0 hR r5.2 _ _ _ hh ⟨hl.1, hl.2.1, fun _ h => nomatch h⟩
def f_X3_isSoundTool (σ : Sg) (i1 : Nat) : Option (Int32 × Sg) := f_X3_isSoundTool_0 σ i1
set_option maxRecDepth 100000 in
set_option maxHeartbeats 4000000 in
theorem c_X3_isSoundTool (hst : l.stackTraces = false) (σ : Sg) (i1 : Nat) (hi1 : i1 < nT) : Ct l yX3_isSoundTool (wm yX3_isSoundTool cX3_isSoundTool 2 (some .boolean)) rmX3_isSoundTool 0 0 vI [.ref (ad 0 0), .ref (ad 1 i1)] D cy n0 ad nT nO  σ (f_X3_isSoundTool σ i1) := by
  intro r0 h0
  refine Met.ofW (cc := cX3_isSoundTool) (maxL := 2) (ret := (some .boolean)) (by decide +kernel) rfl ?_
  intro p e s m args below meth c s₁ B hml hv
  obtain ⟨C0, hh, hR, rfl⟩ := ent B hml hst hv
  rw [lg_entry_eq]
  have hl := lv_entry ([.ref (ad 0 0), .ref (ad 1 i1)]) (n := 2) (Nat.le_of_ble_eq_true rfl)
  generalize (lg_sl ([.ref (ad 0 0), .ref (ad 1 i1)]) ++ List.replicate (2 - (lg_sl ([.ref (ad 0 0), .ref (ad 1 i1)])).length) Slot.unset).toArray = ls at hl ⊢
  exact b_X3_isSoundTool_0 C0 hR σ i1 hi1 _ _ _ hh hl r0 h0
theorem qc49 {R : Room} {s : State} {args : Array Value} (ht : ∀ w ∈ allw, w.before args s = true) (hR : (rmX3_isSoundTool).frames + 1 ≤ R.frames ∧ 8 + (2 + 11) + (rmX3_isSoundTool).locals ≤ R.locals) : CallW R s args RX3 RX3 239 yX3_isSoundTool cX3_isSoundTool 2 (some .boolean) (wm yX3_isSoundTool cX3_isSoundTool 2 (some .boolean)) rmX3_isSoundTool 0 0 1 := cwV 1 ht (gd_of (fun _ h => h) _ (mV w302 w304 w305 w64 w303)) rfl rfl rfl (by decide +kernel) hR
def rmX3_isSound : Room := { frames := 5, cells := 0, slots := 0, locals := 125 }
def f_X3_isSound_32 (rec2 : Sg → Int32 → Option (Int32 × Sg)) (σ : Sg) (x1 : Int32) : Option (Int32 × Sg) :=
  (rec2 σ (x1 + 1))
set_option maxRecDepth 100000 in
set_option maxHeartbeats 4000000 in
theorem b_X3_isSound_32 (C0 : Cx p l s m args meth c cX3_isSound 2 RX3 D cy n0) (hR : meth.sig.returnType = (some .boolean)) (rec2 : Sg → Int32 → Option (Int32 × Sg)) (hrec2 : ∀ (σ : Sg) (x1 : Int32) (H : Heap) (locs : List Loc) (ls : Array Slot), Hp D cy n0 ad nT nO s σ H locs → lv_has ls 2 [(0, .ref (ad 0 0)), (1, .int x1)] → Sm (Qr below args s D cy n0 ad nT nO vI 0 0) (rec2 σ x1) p l e rmX3_isSound s m args below meth c H locs 0 0 (F0 m 2 ls [])) (σ : Sg) (x1 : Int32) (H : Heap) (locs : List Loc) (ls : Array Slot) (hh : Hp D cy n0 ad nT nO s σ H locs) (hl : lv_has ls 2 [(0, .ref (ad 0 0)), (1, .int x1)]) : Sm (Qr below args s D cy n0 ad nT nO vI 0 0) (f_X3_isSound_32 rec2 σ x1) p l e rmX3_isSound s m args below meth c H locs 0 0 (F0 m 32 ls []) := by
  unfold f_X3_isSound_32
  refine s_iinc (k := 1) (v := (x1 + 1)) (lv' := [(1, .int (x1 + 1)), (0, .ref (ad 0 0))]) C0 dX3_isSound_32 hl rfl rfl (by decide) rfl (fun ls hl => ?_)
  refine s_goto (tgt := 2) C0 dX3_isSound_35 (by decide) ?_
  exact hrec2 σ (x1 + 1) _ _ _ hh (lv_sub hl [1, 0] rfl)
def g_X3_isSound_2 (rec2 : Sg → Int32 → Option (Int32 × Sg)) (σ : Sg) (x1 : Int32) : Option (Int32 × Sg) :=
  (if (8 : Int32) ≤ (x1 : Int32) then (some (1, σ)) else (if (x1 : Int32) < 0 ∨ 8 ≤ (x1 : Int32).toNatClampNeg then none else if σ.1 10 0 (x1 : Int32).toNatClampNeg = 0 then (f_X3_isSound_32 rec2 σ x1) else (if (x1 : Int32) < 0 ∨ 8 ≤ (x1 : Int32).toNatClampNeg then none else if σ.1 10 0 (x1 : Int32).toNatClampNeg = 0 then none else ((f_X3_isSoundTool σ ((x1 : Int32).toNatClampNeg)).bind (fun r3 => (if (r3.1 : Int32) = (0 : Int32) then (some (0, r3.2)) else (f_X3_isSound_32 rec2 r3.2 x1)))))))
def f_X3_isSound_2 : Nat → Sg → Int32 → Option (Int32 × Sg)
  | 0 => fun _ _ => none
  | n + 1 => fun σ x1 => g_X3_isSound_2 (f_X3_isSound_2 n) σ x1
set_option maxRecDepth 100000 in
set_option maxHeartbeats 4000000 in
theorem a_X3_isSound_2 (C0 : Cx p l s m args meth c cX3_isSound 2 RX3 D cy n0) (hR : meth.sig.returnType = (some .boolean)) (rec2 : Sg → Int32 → Option (Int32 × Sg)) (hrec2 : ∀ (σ : Sg) (x1 : Int32) (H : Heap) (locs : List Loc) (ls : Array Slot), Hp D cy n0 ad nT nO s σ H locs → lv_has ls 2 [(0, .ref (ad 0 0)), (1, .int x1)] → Sm (Qr below args s D cy n0 ad nT nO vI 0 0) (rec2 σ x1) p l e rmX3_isSound s m args below meth c H locs 0 0 (F0 m 2 ls [])) (σ : Sg) (x1 : Int32) (H : Heap) (locs : List Loc) (ls : Array Slot) (hh : Hp D cy n0 ad nT nO s σ H locs) (hl : lv_has ls 2 [(0, .ref (ad 0 0)), (1, .int x1)]) : Sm (Qr below args s D cy n0 ad nT nO vI 0 0) (g_X3_isSound_2 rec2 σ x1) p l e rmX3_isSound s m args below meth c H locs 0 0 (F0 m 2 ls []) := by
  unfold g_X3_isSound_2
  refine s_iload_n C0 dX3_isSound_2 rfl (lv_at hl 1 rfl) ?_
  refine s_bipush (v := 8) C0 dX3_isSound_3 (by decide) ?_
  refine s_icmp_ge (tgt := 38) C0 dX3_isSound_5 (by decide) (fun _ => ?_) (fun _ => ?_)
  · refine s_iconst (v := 1) C0 dX3_isSound_38 (by decide) ?_
    exact s_iret C0 hh hR narrow_b1 (Nat.le_of_ble_eq_true rfl) (Nat.le_of_ble_eq_true rfl) dX3_isSound_39
  · refine s_aload_n C0 dX3_isSound_8 rfl (lv_at hl 0 rfl) ?_
    refine s_get (v := .ref (ad 10 0)) C0 hh (rl_b (by decide)) rfl (T := TX3) (N := 6) rfl hinX3 (by decide) w26 rfl dX3_isSound_9 ?_
    refine s_iload_n C0 dX3_isSound_12 rfl (lv_at hl 1 rfl) ?_
    refine s_aaldNUT (tgt := 32) C0 hh dX3_isSound_13 dX3_isSound_14 (by decide) (fun _ => ?_) (fun _ _ => ?_)
    · exact b_X3_isSound_32 C0 hR rec2 hrec2 σ x1 _ _ _ hh (lv_sub hl [0, 1] rfl)
    · refine s_aload_n C0 dX3_isSound_17 rfl (lv_at hl 0 rfl) ?_
      refine s_aload_n C0 dX3_isSound_18 rfl (lv_at hl 0 rfl) ?_
      refine s_get (v := .ref (ad 10 0)) C0 hh (rl_b (by decide)) rfl (T := TX3) (N := 6) rfl hinX3 (by decide) w26 rfl dX3_isSound_19 ?_
      refine s_iload_n C0 dX3_isSound_22 rfl (lv_at hl 1 rfl) ?_
      refine s_aaldT C0 hh dX3_isSound_23 (fun hj2 => ?_)
      refine s_V (As := [.ref (ad 1 (x1 : Int32).toNatClampNeg)]) (rest := []) C0 hh (c_X3_isSoundTool C0.2.2.2.2.2.2 _ ((x1 : Int32).toNatClampNeg) hj2) (qc49 C0.1.2.2.2.2 ⟨Nat.le_of_ble_eq_true rfl, Nat.le_of_ble_eq_true rfl⟩) (rl_b (by decide)) rfl rfl rfl hl.1 rfl (lv_room (Nat.le_of_ble_eq_true rfl)) dX3_isSound_24 ⟨Nat.le_of_ble_eq_true rfl, Nat.le_of_ble_eq_true rfl⟩ (fun r3 H locs hor3 hh => ?_)
      refine s_if_ne (tgt := 32) C0 dX3_isSound_27 (by decide) (fun _ => ?_) (fun _ => ?_)
      · exact b_X3_isSound_32 C0 hR rec2 hrec2 r3.2 x1 _ _ _ hh (lv_sub hl [0, 1] rfl)
      · refine s_iconst (v := 0) C0 dX3_isSound_30 (by decide) ?_
        exact s_iret C0 hh hR narrow_b0 (Nat.le_of_ble_eq_true rfl) (Nat.le_of_ble_eq_true rfl) dX3_isSound_31
theorem b_X3_isSound_2 (C0 : Cx p l s m args meth c cX3_isSound 2 RX3 D cy n0) (hR : meth.sig.returnType = (some .boolean)) : ∀ (n : Nat) (σ : Sg) (x1 : Int32) (H : Heap) (locs : List Loc) (ls : Array Slot) (hh : Hp D cy n0 ad nT nO s σ H locs) (hl : lv_has ls 2 [(0, .ref (ad 0 0)), (1, .int x1)]), Sm (Qr below args s D cy n0 ad nT nO vI 0 0) (f_X3_isSound_2 n σ x1) p l e rmX3_isSound s m args below meth c H locs 0 0 (F0 m 2 ls []) := by
  intro n
  induction n with
  | zero => intros; intro r h; cases h
  | succ n ih => intro σ x1 H locs ls hh hl; exact a_X3_isSound_2 C0 hR (f_X3_isSound_2 n) ih σ x1 H locs ls hh hl
def f_X3_isSound_0 (σ : Sg) : Option (Int32 × Sg) :=
  (f_X3_isSound_2 70 σ 0)
set_option maxRecDepth 100000 in
set_option maxHeartbeats 4000000 in
theorem b_X3_isSound_0 (C0 : Cx p l s m args meth c cX3_isSound 2 RX3 D cy n0) (hR : meth.sig.returnType = (some .boolean)) (σ : Sg) (H : Heap) (locs : List Loc) (ls : Array Slot) (hh : Hp D cy n0 ad nT nO s σ H locs) (hl : lv_has ls 2 [(0, .ref (ad 0 0))]) : Sm (Qr below args s D cy n0 ad nT nO vI 0 0) (f_X3_isSound_0 σ) p l e rmX3_isSound s m args below meth c H locs 0 0 (F0 m 0 ls []) := by
  unfold f_X3_isSound_0
  refine s_iconst (v := 0) C0 dX3_isSound_0 (by decide) ?_
  refine s_istore_n (lv' := [(1, .int 0), (0, .ref (ad 0 0))]) C0 dX3_isSound_1 rfl hl (by decide) rfl (fun ls hl => ?_)
  exact b_X3_isSound_2 C0 hR 70 σ 0 _ _ _ hh (lv_sub hl [1, 0] rfl)
def f_X3_isSound (σ : Sg) : Option (Int32 × Sg) := f_X3_isSound_0 σ
set_option maxRecDepth 100000 in
set_option maxHeartbeats 4000000 in
theorem c_X3_isSound (hst : l.stackTraces = false) (σ : Sg) : Ct l yX3_isSound (wm yX3_isSound cX3_isSound 2 (some .boolean)) rmX3_isSound 0 0 vI [.ref (ad 0 0)] D cy n0 ad nT nO  σ (f_X3_isSound σ) := by
  intro r0 h0
  refine Met.ofW (cc := cX3_isSound) (maxL := 2) (ret := (some .boolean)) (by decide +kernel) rfl ?_
  intro p e s m args below meth c s₁ B hml hv
  obtain ⟨C0, hh, hR, rfl⟩ := ent B hml hst hv
  rw [lg_entry_eq]
  have hl := lv_entry ([.ref (ad 0 0)]) (n := 2) (Nat.le_of_ble_eq_true rfl)
  generalize (lg_sl ([.ref (ad 0 0)]) ++ List.replicate (2 - (lg_sl ([.ref (ad 0 0)])).length) Slot.unset).toArray = ls at hl ⊢
  exact b_X3_isSound_0 C0 hR σ _ _ _ hh hl r0 h0
end
