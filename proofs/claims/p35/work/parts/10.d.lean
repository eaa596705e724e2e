section
variable {p : Program} {l : Launch} {e : Env} {R : Room} {s : State} {m : MethodId} {args : Array Value} {below : List Frame} {meth : Method} {c : Code} {D : va_G} {cy : Nat → ClassId} {n0 : Nat} {ad : Nat → Nat → Nat} {nT nO : Nat}
theorem qc62 {R : Room} {s : State} {args : Array Value} (ht : ∀ w ∈ allw, w.before args s = true) (hR : (rmX4_isShape).frames + 1 ≤ R.frames ∧ 8 + (1 + 11) + (rmX4_isShape).locals ≤ R.locals) : CallB R s args RX4 117 yX4_isShape cX4_isShape 1 (some .boolean) (wm yX4_isShape cX4_isShape 1 (some .boolean)) rmX4_isShape 0 0 1 ∧ (Cond.static yX4_isShape).before args s = true := cwS 1 ht (gd_of (fun _ h => h) _ (mS w354 w356 w310 w355)) rfl rfl rfl (by decide +kernel) hR
def rmX4_blank : Room := { frames := 1, cells := 0, slots := 0, locals := 22 }
def f_X4_blank_74 (σ : Sg) (x1 : Int32) (x2 : Int32) (x3 : Int32) (x4 : Int32) (s0 : Int32) : Option (Int32 × Sg) :=
  ((f_X4_isWrong σ s0).bind (fun r2 => (if (r2.1 : Int32) = (0 : Int32) then (if ((r2.2.1 7 0 1) : Int32) < 0 ∨ 8 ≤ ((r2.2.1 7 0 1) : Int32).toNatClampNeg then none else (if ((r2.2.1 7 0 1) : Int32) < 0 ∨ 8 ≤ ((r2.2.1 7 0 1) : Int32).toNatClampNeg then none else (if ((r2.2.1 7 0 1) : Int32) < 0 ∨ 8 ≤ ((r2.2.1 7 0 1) : Int32).toNatClampNeg then none else (if ((r2.2.1 7 0 1) : Int32) < 0 ∨ 8 ≤ ((r2.2.1 7 0 1) : Int32).toNatClampNeg then none else (if ((r2.2.1 7 0 1) : Int32) < 0 ∨ 8 ≤ ((r2.2.1 7 0 1) : Int32).toNatClampNeg then none else (if ((r2.2.1 7 0 1) : Int32) < 0 ∨ 8 ≤ ((r2.2.1 7 0 1) : Int32).toNatClampNeg then none else (some ((((sv (sv (sv (sv (sv (sv (sv r2.2 8 2 ((r2.2.1 7 0 1) : Int32).toNatClampNeg (vp_nar .char x1)) 8 5 ((r2.2.1 7 0 1) : Int32).toNatClampNeg x2) 8 6 ((r2.2.1 7 0 1) : Int32).toNatClampNeg x3) 8 7 ((r2.2.1 7 0 1) : Int32).toNatClampNeg x4) 8 3 ((r2.2.1 7 0 1) : Int32).toNatClampNeg (vp_nar .char 45)) 8 4 ((r2.2.1 7 0 1) : Int32).toNatClampNeg (vp_nar .char 115)) 7 0 1 ((r2.2.1 7 0 1) + 1)).1 7 0 1) - 1), (sv (sv (sv (sv (sv (sv (sv r2.2 8 2 ((r2.2.1 7 0 1) : Int32).toNatClampNeg (vp_nar .char x1)) 8 5 ((r2.2.1 7 0 1) : Int32).toNatClampNeg x2) 8 6 ((r2.2.1 7 0 1) : Int32).toNatClampNeg x3) 8 7 ((r2.2.1 7 0 1) : Int32).toNatClampNeg x4) 8 3 ((r2.2.1 7 0 1) : Int32).toNatClampNeg (vp_nar .char 45)) 8 4 ((r2.2.1 7 0 1) : Int32).toNatClampNeg (vp_nar .char 115)) 7 0 1 ((r2.2.1 7 0 1) + 1)))))))))) else (some (0, r2.2)))))
set_option maxRecDepth 100000 in
set_option maxHeartbeats 4000000 in
theorem b_X4_blank_74 (C0 : Cx p l s m args meth c cX4_blank 6 RX4 D cy n0) (hR : meth.sig.returnType = (some .int)) (σ : Sg) (x1 : Int32) (x2 : Int32) (x3 : Int32) (x4 : Int32) (s0 : Int32) (H : Heap) (locs : List Loc) (ls : Array Slot) (hh : Hp D cy n0 ad nT nO s σ H locs) (hl : lv_has ls 6 [(0, .ref (ad 7 0)), (1, .int x1), (2, .int x2), (3, .int x3), (4, .int x4)]) : Sm (Qr below args s D cy n0 ad nT nO vI 0 0) (f_X4_blank_74 σ x1 x2 x3 x4 s0) p l e rmX4_blank s m args below meth c H locs 0 0 (F0 m 74 ls [.int s0, .ref (ad 7 0)]) := by
  unfold f_X4_blank_74
  refine s_V (As := [.int s0]) (rest := []) C0 hh (c_X4_isWrong C0.2.2.2.2.2.2 _ s0) (qc51 C0.1.2.2.2.2 ⟨Nat.le_of_ble_eq_true rfl, Nat.le_of_ble_eq_true rfl⟩) (rl_b (by decide)) rfl rfl rfl hl.1 rfl (lv_room (Nat.le_of_ble_eq_true rfl)) dX4_blank_74 ⟨Nat.le_of_ble_eq_true rfl, Nat.le_of_ble_eq_true rfl⟩ (fun r2 H locs hor2 hh => ?_)
  refine s_if_eq (tgt := 82) C0 dX4_blank_77 (by decide) (fun _ => ?_) (fun _ => ?_)
  · refine s_aload_n C0 dX4_blank_82 rfl (lv_at hl 0 rfl) ?_
    refine s_get (v := .ref (ad 8 2)) C0 hh (rl_b (by decide)) rfl (T := TX4) (N := 28) rfl hinX4 (by decide) w35 rfl dX4_blank_83 ?_
    refine s_aload_n C0 dX4_blank_86 rfl (lv_at hl 0 rfl) ?_
    refine s_get (v := .int (r2.2.1 7 0 1)) C0 hh (rl_b (by decide)) rfl (T := TX4) (N := 28) rfl hinX4 (by decide) w307 rfl dX4_blank_87 ?_
    refine s_iload_n C0 dX4_blank_90 rfl (lv_at hl 1 rfl) ?_
    refine s_cast C0 hh (rl_b (by decide)) (fun _ => rfl) (t0 := 0) rfl (by decide) (by decide) (by decide) dX4_blank_91 (fun H locs hh => ?_)
    refine s_aload_n C0 dX4_blank_92 rfl (lv_at hl 0 rfl) ?_
    refine s_get (v := .ref (ad 8 5)) C0 hh (rl_b (by decide)) rfl (T := TX4) (N := 28) rfl hinX4 (by decide) w38 rfl dX4_blank_93 ?_
    refine s_aload_n C0 dX4_blank_96 rfl (lv_at hl 0 rfl) ?_
    refine s_get (v := .int (r2.2.1 7 0 1)) C0 hh (rl_b (by decide)) rfl (T := TX4) (N := 28) rfl hinX4 (by decide) w307 rfl dX4_blank_97 ?_
    refine s_iload_n C0 dX4_blank_100 rfl (lv_at hl 2 rfl) ?_
    refine s_iast C0 hh (rl_b (by decide)) (fun _ => rfl) (t0 := 1) rfl (by decide) (by decide) (by decide) dX4_blank_101 (fun H locs hh => ?_)
    refine s_aload_n C0 dX4_blank_102 rfl (lv_at hl 0 rfl) ?_
    refine s_get (v := .ref (ad 8 6)) C0 hh (rl_b (by decide)) rfl (T := TX4) (N := 28) rfl hinX4 (by decide) w39 rfl dX4_blank_103 ?_
    refine s_aload_n C0 dX4_blank_106 rfl (lv_at hl 0 rfl) ?_
    refine s_get (v := .int (r2.2.1 7 0 1)) C0 hh (rl_b (by decide)) rfl (T := TX4) (N := 28) rfl hinX4 (by decide) w307 rfl dX4_blank_107 ?_
    refine s_iload_n C0 dX4_blank_110 rfl (lv_at hl 3 rfl) ?_
    refine s_iast C0 hh (rl_b (by decide)) (fun _ => rfl) (t0 := 1) rfl (by decide) (by decide) (by decide) dX4_blank_111 (fun H locs hh => ?_)
    refine s_aload_n C0 dX4_blank_112 rfl (lv_at hl 0 rfl) ?_
    refine s_get (v := .ref (ad 8 7)) C0 hh (rl_b (by decide)) rfl (T := TX4) (N := 28) rfl hinX4 (by decide) w40 rfl dX4_blank_113 ?_
    refine s_aload_n C0 dX4_blank_116 rfl (lv_at hl 0 rfl) ?_
    refine s_get (v := .int (r2.2.1 7 0 1)) C0 hh (rl_b (by decide)) rfl (T := TX4) (N := 28) rfl hinX4 (by decide) w307 rfl dX4_blank_117 ?_
    refine s_iload C0 dX4_blank_120 (lv_at hl 4 rfl) ?_
    refine s_iast C0 hh (rl_b (by decide)) (fun _ => rfl) (t0 := 1) rfl (by decide) (by decide) (by decide) dX4_blank_122 (fun H locs hh => ?_)
    refine s_aload_n C0 dX4_blank_123 rfl (lv_at hl 0 rfl) ?_
    refine s_get (v := .ref (ad 8 3)) C0 hh (rl_b (by decide)) rfl (T := TX4) (N := 28) rfl hinX4 (by decide) w36 rfl dX4_blank_124 ?_
    refine s_aload_n C0 dX4_blank_127 rfl (lv_at hl 0 rfl) ?_
    refine s_get (v := .int (r2.2.1 7 0 1)) C0 hh (rl_b (by decide)) rfl (T := TX4) (N := 28) rfl hinX4 (by decide) w307 rfl dX4_blank_128 ?_
    refine s_bipush (v := 45) C0 dX4_blank_131 (by decide) ?_
    refine s_cast C0 hh (rl_b (by decide)) (fun _ => rfl) (t0 := 0) rfl (by decide) (by decide) (by decide) dX4_blank_133 (fun H locs hh => ?_)
    refine s_aload_n C0 dX4_blank_134 rfl (lv_at hl 0 rfl) ?_
    refine s_get (v := .ref (ad 8 4)) C0 hh (rl_b (by decide)) rfl (T := TX4) (N := 28) rfl hinX4 (by decide) w37 rfl dX4_blank_135 ?_
    refine s_aload_n C0 dX4_blank_138 rfl (lv_at hl 0 rfl) ?_
    refine s_get (v := .int (r2.2.1 7 0 1)) C0 hh (rl_b (by decide)) rfl (T := TX4) (N := 28) rfl hinX4 (by decide) w307 rfl dX4_blank_139 ?_
    refine s_bipush (v := 115) C0 dX4_blank_142 (by decide) ?_
    refine s_cast C0 hh (rl_b (by decide)) (fun _ => rfl) (t0 := 0) rfl (by decide) (by decide) (by decide) dX4_blank_144 (fun H locs hh => ?_)
    refine s_aload_n C0 dX4_blank_145 rfl (lv_at hl 0 rfl) ?_
    refine s_dup C0 dX4_blank_146 rfl ?_
    refine s_get (v := .int (r2.2.1 7 0 1)) C0 hh (rl_b (by decide)) rfl (T := TX4) (N := 28) rfl hinX4 (by decide) w307 rfl dX4_blank_147 ?_
    refine s_iconst (v := 1) C0 dX4_blank_150 (by decide) ?_
    refine s_iadd C0 dX4_blank_151 ?_
    refine s_put C0 hh (rl_b (by decide)) rfl rfl (T := TX4) (N := 28) rfl hinX4 tyX4 tyX4_ok nmX4 (by decide) w307 rfl (ty := .int) (by decide +kernel) rfl rfl (Nat.le_of_ble_eq_true rfl) (by decide) (by decide) (by decide) dX4_blank_152 (fun H locs hh => ?_)
    refine s_aload_n C0 dX4_blank_155 rfl (lv_at hl 0 rfl) ?_
    refine s_get (v := .int ((sv (sv (sv (sv (sv (sv (sv r2.2 8 2 ((r2.2.1 7 0 1) : Int32).toNatClampNeg (vp_nar .char x1)) 8 5 ((r2.2.1 7 0 1) : Int32).toNatClampNeg x2) 8 6 ((r2.2.1 7 0 1) : Int32).toNatClampNeg x3) 8 7 ((r2.2.1 7 0 1) : Int32).toNatClampNeg x4) 8 3 ((r2.2.1 7 0 1) : Int32).toNatClampNeg (vp_nar .char 45)) 8 4 ((r2.2.1 7 0 1) : Int32).toNatClampNeg (vp_nar .char 115)) 7 0 1 ((r2.2.1 7 0 1) + 1)).1 7 0 1)) C0 hh (rl_b (by decide)) rfl (T := TX4) (N := 28) rfl hinX4 (by decide) w307 rfl dX4_blank_156 ?_
    refine s_iconst (v := 1) C0 dX4_blank_159 (by decide) ?_
    refine s_isub C0 dX4_blank_160 ?_
    exact s_iret C0 hh hR rfl (Nat.le_of_ble_eq_true rfl) (Nat.le_of_ble_eq_true rfl) dX4_blank_161
  · refine s_iconst (v := 0) C0 dX4_blank_80 (by decide) ?_
    exact s_iret C0 hh hR rfl (Nat.le_of_ble_eq_true rfl) (Nat.le_of_ble_eq_true rfl) dX4_blank_81
def f_X4_blank_48 (σ : Sg) (x1 : Int32) (x2 : Int32) (x3 : Int32) (x4 : Int32) (s0 : Int32) : Option (Int32 × Sg) :=
  (if (s0 : Int32) = (0 : Int32) then (f_X4_blank_74 σ x1 x2 x3 x4 1) else (if ((σ.1 7 0 1) : Int32) = (8 : Int32) then (f_X4_blank_74 σ x1 x2 x3 x4 2) else (f_X4_blank_74 σ x1 x2 x3 x4 0)))
set_option maxRecDepth 100000 in
set_option maxHeartbeats 4000000 in
theorem b_X4_blank_48 (C0 : Cx p l s m args meth c cX4_blank 6 RX4 D cy n0) (hR : meth.sig.returnType = (some .int)) (σ : Sg) (x1 : Int32) (x2 : Int32) (x3 : Int32) (x4 : Int32) (s0 : Int32) (H : Heap) (locs : List Loc) (ls : Array Slot) (hh : Hp D cy n0 ad nT nO s σ H locs) (hl : lv_has ls 6 [(0, .ref (ad 7 0)), (1, .int x1), (2, .int x2), (3, .int x3), (4, .int x4)]) : Sm (Qr below args s D cy n0 ad nT nO vI 0 0) (f_X4_blank_48 σ x1 x2 x3 x4 s0) p l e rmX4_blank s m args below meth c H locs 0 0 (F0 m 48 ls [.int s0]) := by
  unfold f_X4_blank_48
  refine s_istore (lv' := [(5, .int s0), (0, .ref (ad 7 0)), (1, .int x1), (2, .int x2), (3, .int x3), (4, .int x4)]) C0 dX4_blank_48 hl (by decide) rfl (fun ls hl => ?_)
  refine s_aload_n C0 dX4_blank_50 rfl (lv_at hl 1 rfl) ?_
  refine s_iload C0 dX4_blank_51 (lv_at hl 0 rfl) ?_
  refine s_if_ne (tgt := 60) C0 dX4_blank_53 (by decide) (fun _ => ?_) (fun _ => ?_)
  · refine s_aload_n C0 dX4_blank_60 rfl (lv_at hl 1 rfl) ?_
    refine s_get (v := .int (σ.1 7 0 1)) C0 hh (rl_b (by decide)) rfl (T := TX4) (N := 28) rfl hinX4 (by decide) w307 rfl dX4_blank_61 ?_
    refine s_bipush (v := 8) C0 dX4_blank_64 (by decide) ?_
    refine s_icmp_ne (tgt := 73) C0 dX4_blank_66 (by decide) (fun _ => ?_) (fun _ => ?_)
    · refine s_iconst (v := 0) C0 dX4_blank_73 (by decide) ?_
      exact b_X4_blank_74 C0 hR σ x1 x2 x3 x4 0 _ _ _ hh (lv_sub hl [1, 2, 3, 4, 5] rfl)
    · refine s_iconst (v := 2) C0 dX4_blank_69 (by decide) ?_
      refine s_goto (tgt := 74) C0 dX4_blank_70 (by decide) ?_
      exact b_X4_blank_74 C0 hR σ x1 x2 x3 x4 2 _ _ _ hh (lv_sub hl [1, 2, 3, 4, 5] rfl)
  · refine s_iconst (v := 1) C0 dX4_blank_56 (by decide) ?_
    refine s_goto (tgt := 74) C0 dX4_blank_57 (by decide) ?_
    exact b_X4_blank_74 C0 hR σ x1 x2 x3 x4 1 _ _ _ hh (lv_sub hl [1, 2, 3, 4, 5] rfl)
def f_X4_blank_47 (σ : Sg) (x1 : Int32) (x2 : Int32) (x3 : Int32) (x4 : Int32) : Option (Int32 × Sg) :=
  (f_X4_blank_48 σ x1 x2 x3 x4 0)
set_option maxRecDepth 100000 in
set_option maxHeartbeats 4000000 in
theorem b_X4_blank_47 (C0 : Cx p l s m args meth c cX4_blank 6 RX4 D cy n0) (hR : meth.sig.returnType = (some .int)) (σ : Sg) (x1 : Int32) (x2 : Int32) (x3 : Int32) (x4 : Int32) (H : Heap) (locs : List Loc) (ls : Array Slot) (hh : Hp D cy n0 ad nT nO s σ H locs) (hl : lv_has ls 6 [(0, .ref (ad 7 0)), (1, .int x1), (2, .int x2), (3, .int x3), (4, .int x4)]) : Sm (Qr below args s D cy n0 ad nT nO vI 0 0) (f_X4_blank_47 σ x1 x2 x3 x4) p l e rmX4_blank s m args below meth c H locs 0 0 (F0 m 47 ls []) := by
  unfold f_X4_blank_47
  refine s_iconst (v := 0) C0 dX4_blank_47 (by decide) ?_
  exact b_X4_blank_48 C0 hR σ x1 x2 x3 x4 0 _ _ _ hh (lv_sub hl [0, 1, 2, 3, 4] rfl)
def f_X4_blank_0 (σ : Sg) (x1 : Int32) (x2 : Int32) (x3 : Int32) (x4 : Int32) : Option (Int32 × Sg) :=
  ((f_X4_isShape σ x1).bind (fun r1 => (if (r1.1 : Int32) = (0 : Int32) then (f_X4_blank_47 r1.2 x1 x2 x3 x4) else ((f_X4_isBetween r1.2 x2 50 200).bind (fun r3 => (if (r3.1 : Int32) = (0 : Int32) then (f_X4_blank_47 r3.2 x1 x2 x3 x4) else ((f_X4_isBetween r3.2 x3 20 99).bind (fun r4 => (if (r4.1 : Int32) = (0 : Int32) then (f_X4_blank_47 r4.2 x1 x2 x3 x4) else ((f_X4_isBetween r4.2 x4 40 140).bind (fun r5 => (if (r5.1 : Int32) = (0 : Int32) then (f_X4_blank_47 r5.2 x1 x2 x3 x4) else (f_X4_blank_48 r5.2 x1 x2 x3 x4 1)))))))))))))
set_option maxRecDepth 100000 in
set_option maxHeartbeats 4000000 in
theorem b_X4_blank_0 (C0 : Cx p l s m args meth c cX4_blank 6 RX4 D cy n0) (hR : meth.sig.returnType = (some .int)) (σ : Sg) (x1 : Int32) (x2 : Int32) (x3 : Int32) (x4 : Int32) (H : Heap) (locs : List Loc) (ls : Array Slot) (hh : Hp D cy n0 ad nT nO s σ H locs) (hl : lv_has ls 6 [(0, .ref (ad 7 0)), (1, .int x1), (2, .int x2), (3, .int x3), (4, .int x4)]) : Sm (Qr below args s D cy n0 ad nT nO vI 0 0) (f_X4_blank_0 σ x1 x2 x3 x4) p l e rmX4_blank s m args below meth c H locs 0 0 (F0 m 0 ls []) := by
  unfold f_X4_blank_0
  refine s_iload_n C0 dX4_blank_0 rfl (lv_at hl 1 rfl) ?_
  refine s_S (As := [.int x1]) (rest := []) C0 hh (c_X4_isShape C0.2.2.2.2.2.2 _ x1) (qc62 C0.1.2.2.2.2 ⟨Nat.le_of_ble_eq_true rfl, Nat.le_of_ble_eq_true rfl⟩) rfl hl.1 rfl (lv_room (Nat.le_of_ble_eq_true rfl)) dX4_blank_1 ⟨Nat.le_of_ble_eq_true rfl, Nat.le_of_ble_eq_true rfl⟩ (fun r1 H locs hor1 hh => ?_)
  refine s_if_eq (tgt := 47) C0 dX4_blank_4 (by decide) (fun _ => ?_) (fun _ => ?_)
  · exact b_X4_blank_47 C0 hR r1.2 x1 x2 x3 x4 _ _ _ hh (lv_sub hl [0, 1, 2, 3, 4] rfl)
  · refine s_iload_n C0 dX4_blank_7 rfl (lv_at hl 2 rfl) ?_
    refine s_bipush (v := 50) C0 dX4_blank_8 (by decide) ?_
    refine s_sipush (v := 200) C0 dX4_blank_10 (by decide) ?_
    refine s_S (As := [.int x2, .int 50, .int 200]) (rest := []) C0 hh (c_X4_isBetween C0.2.2.2.2.2.2 _ x2 50 200) (qc50 C0.1.2.2.2.2 ⟨Nat.le_of_ble_eq_true rfl, Nat.le_of_ble_eq_true rfl⟩) rfl hl.1 rfl (lv_room (Nat.le_of_ble_eq_true rfl)) dX4_blank_13 ⟨Nat.le_of_ble_eq_true rfl, Nat.le_of_ble_eq_true rfl⟩ (fun r3 H locs hor3 hh => ?_)
    refine s_if_eq (tgt := 47) C0 dX4_blank_16 (by decide) (fun _ => ?_) (fun _ => ?_)
    · exact b_X4_blank_47 C0 hR r3.2 x1 x2 x3 x4 _ _ _ hh (lv_sub hl [0, 1, 2, 3, 4] rfl)
    · refine s_iload_n C0 dX4_blank_19 rfl (lv_at hl 3 rfl) ?_
      refine s_bipush (v := 20) C0 dX4_blank_20 (by decide) ?_
      refine s_bipush (v := 99) C0 dX4_blank_22 (by decide) ?_
      refine s_S (As := [.int x3, .int 20, .int 99]) (rest := []) C0 hh (c_X4_isBetween C0.2.2.2.2.2.2 _ x3 20 99) (qc50 C0.1.2.2.2.2 ⟨Nat.le_of_ble_eq_true rfl, Nat.le_of_ble_eq_true rfl⟩) rfl hl.1 rfl (lv_room (Nat.le_of_ble_eq_true rfl)) dX4_blank_24 ⟨Nat.le_of_ble_eq_true rfl, Nat.le_of_ble_eq_true rfl⟩ (fun r4 H locs hor4 hh => ?_)
      refine s_if_eq (tgt := 47) C0 dX4_blank_27 (by decide) (fun _ => ?_) (fun _ => ?_)
      · exact b_X4_blank_47 C0 hR r4.2 x1 x2 x3 x4 _ _ _ hh (lv_sub hl [0, 1, 2, 3, 4] rfl)
      · refine s_iload C0 dX4_blank_30 (lv_at hl 4 rfl) ?_
        refine s_bipush (v := 40) C0 dX4_blank_32 (by decide) ?_
        refine s_sipush (v := 140) C0 dX4_blank_34 (by decide) ?_
        refine s_S (As := [.int x4, .int 40, .int 140]) (rest := []) C0 hh (c_X4_isBetween C0.2.2.2.2.2.2 _ x4 40 140) (qc50 C0.1.2.2.2.2 ⟨Nat.le_of_ble_eq_true rfl, Nat.le_of_ble_eq_true rfl⟩) rfl hl.1 rfl (lv_room (Nat.le_of_ble_eq_true rfl)) dX4_blank_37 ⟨Nat.le_of_ble_eq_true rfl, Nat.le_of_ble_eq_true rfl⟩ (fun r5 H locs hor5 hh => ?_)
        refine s_if_eq (tgt := 47) C0 dX4_blank_40 (by decide) (fun _ => ?_) (fun _ => ?_)
        · exact b_X4_blank_47 C0 hR r5.2 x1 x2 x3 x4 _ _ _ hh (lv_sub hl [0, 1, 2, 3, 4] rfl)
        · refine s_iconst (v := 1) C0 dX4_blank_43 (by decide) ?_
          refine s_goto (tgt := 48) C0 dX4_blank_44 (by decide) ?_
          exact b_X4_blank_48 C0 hR r5.2 x1 x2 x3 x4 1 _ _ _ hh (lv_sub hl [0, 1, 2, 3, 4] rfl)
def f_X4_blank (σ : Sg) (x1 : Int32) (x2 : Int32) (x3 : Int32) (x4 : Int32) : Option (Int32 × Sg) := f_X4_blank_0 σ x1 x2 x3 x4
set_option maxRecDepth 100000 in
set_option maxHeartbeats 4000000 in
theorem c_X4_blank (hst : l.stackTraces = false) (σ : Sg) (x1 : Int32) (x2 : Int32) (x3 : Int32) (x4 : Int32) : Ct l yX4_blank (wm yX4_blank cX4_blank 6 (some .int)) rmX4_blank 0 0 vI [.ref (ad 7 0), .int x1, .int x2, .int x3, .int x4] D cy n0 ad nT nO  σ (f_X4_blank σ x1 x2 x3 x4) := by
  intro r0 h0
  refine Met.ofW (cc := cX4_blank) (maxL := 6) (ret := (some .int)) (by decide +kernel) rfl ?_
  intro p e s m args below meth c s₁ B hml hv
  obtain ⟨C0, hh, hR, rfl⟩ := ent B hml hst hv
  rw [lg_entry_eq]
  have hl := lv_entry ([.ref (ad 7 0), .int x1, .int x2, .int x3, .int x4]) (n := 6) (Nat.le_of_ble_eq_true rfl)
  generalize (lg_sl ([.ref (ad 7 0), .int x1, .int x2, .int x3, .int x4]) ++ List.replicate (6 - (lg_sl ([.ref (ad 7 0), .int x1, .int x2, .int x3, .int x4])).length) Slot.unset).toArray = ls at hl ⊢
  exact b_X4_blank_0 C0 hR σ x1 x2 x3 x4 _ _ _ hh hl r0 h0
theorem qc63 {R : Room} {s : State} {args : Array Value} (ht : ∀ w ∈ allw, w.before args s = true) (hR : (rmX4_isCut).frames + 1 ≤ R.frames ∧ 8 + (1 + 11) + (rmX4_isCut).locals ≤ R.locals) : CallB R s args RX4 124 yX4_isCut cX4_isCut 1 (some .boolean) (wm yX4_isCut cX4_isCut 1 (some .boolean)) rmX4_isCut 0 0 1 ∧ (Cond.static yX4_isCut).before args s = true := cwS 1 ht (gd_of (fun _ h => h) _ (mS w357 w359 w310 w358)) rfl rfl rfl (by decide +kernel) hR
theorem qc64 {R : Room} {s : State} {args : Array Value} (ht : ∀ w ∈ allw, w.before args s = true) (hR : (rmX4_placeOf).frames + 1 ≤ R.frames ∧ 8 + (5 + 11) + (rmX4_placeOf).locals ≤ R.locals) : CallW R s args RX4 RX4 127 yX4_placeOf cX4_placeOf 5 (some .int) (wm yX4_placeOf cX4_placeOf 5 (some .int)) rmX4_placeOf 0 0 2 := cwV 2 ht (gd_of (fun _ h => h) _ (mV w360 w362 w363 w310 w361)) rfl rfl rfl (by decide +kernel) hR
def rmX4_cut : Room := { frames := 2, cells := 0, slots := 0, locals := 44 }
def f_X4_cut_182 (σ : Sg) (x1 : Int32) : Option (Int32 × Sg) :=
  (if (x1 : Int32) < 0 ∨ 8 ≤ (x1 : Int32).toNatClampNeg then none else (some ((σ.1 8 16 (x1 : Int32).toNatClampNeg), σ)))
set_option maxRecDepth 100000 in
set_option maxHeartbeats 4000000 in
theorem b_X4_cut_182 (C0 : Cx p l s m args meth c cX4_cut 4 RX4 D cy n0) (hR : meth.sig.returnType = (some .int)) (σ : Sg) (x1 : Int32) (H : Heap) (locs : List Loc) (ls : Array Slot) (hh : Hp D cy n0 ad nT nO s σ H locs) (hl : lv_has ls 4 [(0, .ref (ad 7 0)), (1, .int x1)]) : Sm (Qr below args s D cy n0 ad nT nO vI 0 0) (f_X4_cut_182 σ x1) p l e rmX4_cut s m args below meth c H locs 0 0 (F0 m 182 ls []) := by
  unfold f_X4_cut_182
  refine s_aload_n C0 dX4_cut_182 rfl (lv_at hl 0 rfl) ?_
  refine s_get (v := .ref (ad 8 16)) C0 hh (rl_b (by decide)) rfl (T := TX4) (N := 28) rfl hinX4 (by decide) w49 rfl dX4_cut_183 ?_
  refine s_iload_n C0 dX4_cut_186 rfl (lv_at hl 1 rfl) ?_
  refine s_iald (g := (σ.1 8 16)) C0 hh rfl (rl_b (by decide)) (fun _ => rfl) (t0 := 1) rfl dX4_cut_187 ?_
  exact s_iret C0 hh hR rfl (Nat.le_of_ble_eq_true rfl) (Nat.le_of_ble_eq_true rfl) dX4_cut_188
def g_X4_cut_100 (rec100 : Sg → Int32 → Option (Int32 × Sg)) (σ : Sg) (x1 : Int32) : Option (Int32 × Sg) :=
  (if (x1 : Int32) < 0 ∨ 8 ≤ (x1 : Int32).toNatClampNeg then none else (if (60 : Int32) ≤ ((σ.1 8 16 (x1 : Int32).toNatClampNeg) : Int32) then (f_X4_cut_182 σ x1) else (if (x1 : Int32) < 0 ∨ 8 ≤ (x1 : Int32).toNatClampNeg then none else ((f_X4_placeOf σ x1 (σ.1 8 16 (x1 : Int32).toNatClampNeg)).bind (fun r4 => (if (x1 : Int32) < 0 ∨ 8 ≤ (x1 : Int32).toNatClampNeg then none else (if (r4.2.1 8 5 (x1 : Int32).toNatClampNeg) ≤ (r4.1 : Int32) then (f_X4_cut_182 r4.2 x1) else (if (x1 : Int32) < 0 ∨ 8 ≤ (x1 : Int32).toNatClampNeg then none else ((f_X4_depth r4.2 x1).bind (fun r5 => (if (((60 * x1) + (r4.2.1 8 16 (x1 : Int32).toNatClampNeg)) : Int32) < 0 ∨ 480 ≤ (((60 * x1) + (r4.2.1 8 16 (x1 : Int32).toNatClampNeg)) : Int32).toNatClampNeg then none else (if (x1 : Int32) < 0 ∨ 8 ≤ (x1 : Int32).toNatClampNeg then none else (if (((60 * x1) + (r5.2.1 8 16 (x1 : Int32).toNatClampNeg)) : Int32) < 0 ∨ 480 ≤ (((60 * x1) + (r5.2.1 8 16 (x1 : Int32).toNatClampNeg)) : Int32).toNatClampNeg then none else (if (x1 : Int32) < 0 ∨ 8 ≤ (x1 : Int32).toNatClampNeg then none else (if (x1 : Int32) < 0 ∨ 8 ≤ (x1 : Int32).toNatClampNeg then none else (rec100 (sv (sv (sv r5.2 8 20 (((60 * x1) + (r4.2.1 8 16 (x1 : Int32).toNatClampNeg)) : Int32).toNatClampNeg r5.1) 8 21 (((60 * x1) + (r5.2.1 8 16 (x1 : Int32).toNatClampNeg)) : Int32).toNatClampNeg 0) 8 16 (x1 : Int32).toNatClampNeg ((r5.2.1 8 16 (x1 : Int32).toNatClampNeg) + 1)) x1))))))))))))))))
def f_X4_cut_100 : Nat → Sg → Int32 → Option (Int32 × Sg)
  | 0 => fun _ _ => none
  | n + 1 => fun σ x1 => g_X4_cut_100 (f_X4_cut_100 n) σ x1
set_option maxRecDepth 100000 in
set_option maxHeartbeats 4000000 in
theorem a_X4_cut_100 (C0 : Cx p l s m args meth c cX4_cut 4 RX4 D cy n0) (hR : meth.sig.returnType = (some .int)) (rec100 : Sg → Int32 → Option (Int32 × Sg)) (hrec100 : ∀ (σ : Sg) (x1 : Int32) (H : Heap) (locs : List Loc) (ls : Array Slot), Hp D cy n0 ad nT nO s σ H locs → lv_has ls 4 [(0, .ref (ad 7 0)), (1, .int x1)] → Sm (Qr below args s D cy n0 ad nT nO vI 0 0) (rec100 σ x1) p l e rmX4_cut s m args below meth c H locs 0 0 (F0 m 100 ls [])) (σ : Sg) (x1 : Int32) (H : Heap) (locs : List Loc) (ls : Array Slot) (hh : Hp D cy n0 ad nT nO s σ H locs) (hl : lv_has ls 4 [(0, .ref (ad 7 0)), (1, .int x1)]) : Sm (Qr below args s D cy n0 ad nT nO vI 0 0) (g_X4_cut_100 rec100 σ x1) p l e rmX4_cut s m args below meth c H locs 0 0 (F0 m 100 ls []) := by
  unfold g_X4_cut_100
  refine s_aload_n C0 dX4_cut_100 rfl (lv_at hl 0 rfl) ?_
  refine s_get (v := .ref (ad 8 16)) C0 hh (rl_b (by decide)) rfl (T := TX4) (N := 28) rfl hinX4 (by decide) w49 rfl dX4_cut_101 ?_
  refine s_iload_n C0 dX4_cut_104 rfl (lv_at hl 1 rfl) ?_
  refine s_iald (g := (σ.1 8 16)) C0 hh rfl (rl_b (by decide)) (fun _ => rfl) (t0 := 1) rfl dX4_cut_105 ?_
  refine s_bipush (v := 60) C0 dX4_cut_106 (by decide) ?_
  refine s_icmp_ge (tgt := 182) C0 dX4_cut_108 (by decide) (fun _ => ?_) (fun _ => ?_)
  · exact b_X4_cut_182 C0 hR σ x1 _ _ _ hh (lv_sub hl [0, 1] rfl)
  · refine s_aload_n C0 dX4_cut_111 rfl (lv_at hl 0 rfl) ?_
    refine s_iload_n C0 dX4_cut_112 rfl (lv_at hl 1 rfl) ?_
    refine s_aload_n C0 dX4_cut_113 rfl (lv_at hl 0 rfl) ?_
    refine s_get (v := .ref (ad 8 16)) C0 hh (rl_b (by decide)) rfl (T := TX4) (N := 28) rfl hinX4 (by decide) w49 rfl dX4_cut_114 ?_
    refine s_iload_n C0 dX4_cut_117 rfl (lv_at hl 1 rfl) ?_
    refine s_iald (g := (σ.1 8 16)) C0 hh rfl (rl_b (by decide)) (fun _ => rfl) (t0 := 1) rfl dX4_cut_118 ?_
    refine s_V (As := [.int x1, .int (σ.1 8 16 (x1 : Int32).toNatClampNeg)]) (rest := []) C0 hh (c_X4_placeOf C0.2.2.2.2.2.2 _ x1 (σ.1 8 16 (x1 : Int32).toNatClampNeg)) (qc64 C0.1.2.2.2.2 ⟨Nat.le_of_ble_eq_true rfl, Nat.le_of_ble_eq_true rfl⟩) (rl_b (by decide)) rfl rfl rfl hl.1 rfl (lv_room (Nat.le_of_ble_eq_true rfl)) dX4_cut_119 ⟨Nat.le_of_ble_eq_true rfl, Nat.le_of_ble_eq_true rfl⟩ (fun r4 H locs hor4 hh => ?_)
    refine s_aload_n C0 dX4_cut_122 rfl (lv_at hl 0 rfl) ?_
    refine s_get (v := .ref (ad 8 5)) C0 hh (rl_b (by decide)) rfl (T := TX4) (N := 28) rfl hinX4 (by decide) w38 rfl dX4_cut_123 ?_
    refine s_iload_n C0 dX4_cut_126 rfl (lv_at hl 1 rfl) ?_
    refine s_iald (g := (r4.2.1 8 5)) C0 hh rfl (rl_b (by decide)) (fun _ => rfl) (t0 := 1) rfl dX4_cut_127 ?_
    refine s_icmp_ge (tgt := 182) C0 dX4_cut_128 (by decide) (fun _ => ?_) (fun _ => ?_)
    · exact b_X4_cut_182 C0 hR r4.2 x1 _ _ _ hh (lv_sub hl [0, 1] rfl)
    · refine s_aload_n C0 dX4_cut_131 rfl (lv_at hl 0 rfl) ?_
      refine s_get (v := .ref (ad 8 20)) C0 hh (rl_b (by decide)) rfl (T := TX4) (N := 28) rfl hinX4 (by decide) w54 rfl dX4_cut_132 ?_
      refine s_bipush (v := 60) C0 dX4_cut_135 (by decide) ?_
      refine s_iload_n C0 dX4_cut_137 rfl (lv_at hl 1 rfl) ?_
      refine s_imul C0 dX4_cut_138 ?_
      refine s_aload_n C0 dX4_cut_139 rfl (lv_at hl 0 rfl) ?_
      refine s_get (v := .ref (ad 8 16)) C0 hh (rl_b (by decide)) rfl (T := TX4) (N := 28) rfl hinX4 (by decide) w49 rfl dX4_cut_140 ?_
      refine s_iload_n C0 dX4_cut_143 rfl (lv_at hl 1 rfl) ?_
      refine s_iald (g := (r4.2.1 8 16)) C0 hh rfl (rl_b (by decide)) (fun _ => rfl) (t0 := 1) rfl dX4_cut_144 ?_
      refine s_iadd C0 dX4_cut_145 ?_
      refine s_aload_n C0 dX4_cut_146 rfl (lv_at hl 0 rfl) ?_
      refine s_iload_n C0 dX4_cut_147 rfl (lv_at hl 1 rfl) ?_
      refine s_V (As := [.int x1]) (rest := [.int ((60 * x1) + (r4.2.1 8 16 (x1 : Int32).toNatClampNeg)), .ref (ad 8 20)]) C0 hh (c_X4_depth C0.2.2.2.2.2.2 _ x1) (qc54 C0.1.2.2.2.2 ⟨Nat.le_of_ble_eq_true rfl, Nat.le_of_ble_eq_true rfl⟩) (rl_b (by decide)) rfl rfl rfl hl.1 rfl (lv_room (Nat.le_of_ble_eq_true rfl)) dX4_cut_148 ⟨Nat.le_of_ble_eq_true rfl, Nat.le_of_ble_eq_true rfl⟩ (fun r5 H locs hor5 hh => ?_)
      refine s_iast C0 hh (rl_b (by decide)) (fun _ => rfl) (t0 := 1) rfl (by decide) (by decide) (by decide) dX4_cut_151 (fun H locs hh => ?_)
      refine s_aload_n C0 dX4_cut_152 rfl (lv_at hl 0 rfl) ?_
      refine s_get (v := .ref (ad 8 21)) C0 hh (rl_b (by decide)) rfl (T := TX4) (N := 28) rfl hinX4 (by decide) w55 rfl dX4_cut_153 ?_
      refine s_bipush (v := 60) C0 dX4_cut_156 (by decide) ?_
      refine s_iload_n C0 dX4_cut_158 rfl (lv_at hl 1 rfl) ?_
      refine s_imul C0 dX4_cut_159 ?_
      refine s_aload_n C0 dX4_cut_160 rfl (lv_at hl 0 rfl) ?_
      refine s_get (v := .ref (ad 8 16)) C0 hh (rl_b (by decide)) rfl (T := TX4) (N := 28) rfl hinX4 (by decide) w49 rfl dX4_cut_161 ?_
      refine s_iload_n C0 dX4_cut_164 rfl (lv_at hl 1 rfl) ?_
      refine s_iald (g := (r5.2.1 8 16)) C0 hh rfl (rl_b (by decide)) (fun _ => rfl) (t0 := 1) rfl dX4_cut_165 ?_
      refine s_iadd C0 dX4_cut_166 ?_
      refine s_iconst (v := 0) C0 dX4_cut_167 (by decide) ?_
      refine s_iast C0 hh (rl_b (by decide)) (fun _ => rfl) (t0 := 1) rfl (by decide) (by decide) (by decide) dX4_cut_168 (fun H locs hh => ?_)
      refine s_aload_n C0 dX4_cut_169 rfl (lv_at hl 0 rfl) ?_
      refine s_get (v := .ref (ad 8 16)) C0 hh (rl_b (by decide)) rfl (T := TX4) (N := 28) rfl hinX4 (by decide) w49 rfl dX4_cut_170 ?_
      refine s_iload_n C0 dX4_cut_173 rfl (lv_at hl 1 rfl) ?_
      refine s_dup2 C0 dX4_cut_174 rfl rfl ?_
      refine s_iald (g := (r5.2.1 8 16)) C0 hh rfl (rl_b (by decide)) (fun _ => rfl) (t0 := 1) rfl dX4_cut_175 ?_
      refine s_iconst (v := 1) C0 dX4_cut_176 (by decide) ?_
      refine s_iadd C0 dX4_cut_177 ?_
      refine s_iast C0 hh (rl_b (by decide)) (fun _ => rfl) (t0 := 1) rfl (by decide) (by decide) (by decide) dX4_cut_178 (fun H locs hh => ?_)
      refine s_goto (tgt := 100) C0 dX4_cut_179 (by decide) ?_
      exact hrec100 (sv (sv (sv r5.2 8 20 (((60 * x1) + (r4.2.1 8 16 (x1 : Int32).toNatClampNeg)) : Int32).toNatClampNeg r5.1) 8 21 (((60 * x1) + (r5.2.1 8 16 (x1 : Int32).toNatClampNeg)) : Int32).toNatClampNeg 0) 8 16 (x1 : Int32).toNatClampNeg ((r5.2.1 8 16 (x1 : Int32).toNatClampNeg) + 1)) x1 _ _ _ hh (lv_sub hl [0, 1] rfl)
theorem b_X4_cut_100 (C0 : Cx p l s m args meth c cX4_cut 4 RX4 D cy n0) (hR : meth.sig.returnType = (some .int)) : ∀ (n : Nat) (σ : Sg) (x1 : Int32) (H : Heap) (locs : List Loc) (ls : Array Slot) (hh : Hp D cy n0 ad nT nO s σ H locs) (hl : lv_has ls 4 [(0, .ref (ad 7 0)), (1, .int x1)]), Sm (Qr below args s D cy n0 ad nT nO vI 0 0) (f_X4_cut_100 n σ x1) p l e rmX4_cut s m args below meth c H locs 0 0 (F0 m 100 ls []) := by
  intro n
  induction n with
  | zero => intros; intro r h; cases h
  | succ n ih => intro σ x1 H locs ls hh hl; exact a_X4_cut_100 C0 hR (f_X4_cut_100 n) ih σ x1 H locs ls hh hl
def f_X4_cut_78 (σ : Sg) (x1 : Int32) (x2 : Int32) (x3 : Int32) (s0 : Int32) : Option (Int32 × Sg) :=
  ((f_X4_isWrong σ s0).bind (fun r3 => (if (r3.1 : Int32) = (0 : Int32) then (if (x1 : Int32) < 0 ∨ 8 ≤ (x1 : Int32).toNatClampNeg then none else (if (x1 : Int32) < 0 ∨ 8 ≤ (x1 : Int32).toNatClampNeg then none else (f_X4_cut_100 70 (sv (sv r3.2 8 3 (x1 : Int32).toNatClampNeg (vp_nar .char x2)) 8 8 (x1 : Int32).toNatClampNeg x3) x1))) else (some (0, r3.2)))))
set_option maxRecDepth 100000 in
set_option maxHeartbeats 4000000 in
theorem b_X4_cut_78 (C0 : Cx p l s m args meth c cX4_cut 4 RX4 D cy n0) (hR : meth.sig.returnType = (some .int)) (σ : Sg) (x1 : Int32) (x2 : Int32) (x3 : Int32) (s0 : Int32) (H : Heap) (locs : List Loc) (ls : Array Slot) (hh : Hp D cy n0 ad nT nO s σ H locs) (hl : lv_has ls 4 [(0, .ref (ad 7 0)), (1, .int x1), (2, .int x2), (3, .int x3)]) : Sm (Qr below args s D cy n0 ad nT nO vI 0 0) (f_X4_cut_78 σ x1 x2 x3 s0) p l e rmX4_cut s m args below meth c H locs 0 0 (F0 m 78 ls [.int s0, .ref (ad 7 0)]) := by
  unfold f_X4_cut_78
  refine s_V (As := [.int s0]) (rest := []) C0 hh (c_X4_isWrong C0.2.2.2.2.2.2 _ s0) (qc51 C0.1.2.2.2.2 ⟨Nat.le_of_ble_eq_true rfl, Nat.le_of_ble_eq_true rfl⟩) (rl_b (by decide)) rfl rfl rfl hl.1 rfl (lv_room (Nat.le_of_ble_eq_true rfl)) dX4_cut_78 ⟨Nat.le_of_ble_eq_true rfl, Nat.le_of_ble_eq_true rfl⟩ (fun r3 H locs hor3 hh => ?_)
  refine s_if_eq (tgt := 86) C0 dX4_cut_81 (by decide) (fun _ => ?_) (fun _ => ?_)
  · refine s_aload_n C0 dX4_cut_86 rfl (lv_at hl 0 rfl) ?_
    refine s_get (v := .ref (ad 8 3)) C0 hh (rl_b (by decide)) rfl (T := TX4) (N := 28) rfl hinX4 (by decide) w36 rfl dX4_cut_87 ?_
    refine s_iload_n C0 dX4_cut_90 rfl (lv_at hl 1 rfl) ?_
    refine s_iload_n C0 dX4_cut_91 rfl (lv_at hl 2 rfl) ?_
    refine s_cast C0 hh (rl_b (by decide)) (fun _ => rfl) (t0 := 0) rfl (by decide) (by decide) (by decide) dX4_cut_92 (fun H locs hh => ?_)
    refine s_aload_n C0 dX4_cut_93 rfl (lv_at hl 0 rfl) ?_
    refine s_get (v := .ref (ad 8 8)) C0 hh (rl_b (by decide)) rfl (T := TX4) (N := 28) rfl hinX4 (by decide) w41 rfl dX4_cut_94 ?_
    refine s_iload_n C0 dX4_cut_97 rfl (lv_at hl 1 rfl) ?_
    refine s_iload_n C0 dX4_cut_98 rfl (lv_at hl 3 rfl) ?_
    refine s_iast C0 hh (rl_b (by decide)) (fun _ => rfl) (t0 := 1) rfl (by decide) (by decide) (by decide) dX4_cut_99 (fun H locs hh => ?_)
    exact b_X4_cut_100 C0 hR 70 (sv (sv r3.2 8 3 (x1 : Int32).toNatClampNeg (vp_nar .char x2)) 8 8 (x1 : Int32).toNatClampNeg x3) x1 _ _ _ hh (lv_sub hl [0, 1] rfl)
  · refine s_iconst (v := 0) C0 dX4_cut_84 (by decide) ?_
    exact s_iret C0 hh hR rfl (Nat.le_of_ble_eq_true rfl) (Nat.le_of_ble_eq_true rfl) dX4_cut_85
def f_X4_cut_27 (σ : Sg) (x1 : Int32) (x2 : Int32) (x3 : Int32) : Option (Int32 × Sg) :=
  (f_X4_cut_78 σ x1 x2 x3 2)
set_option maxRecDepth 100000 in
set_option maxHeartbeats 4000000 in
theorem b_X4_cut_27 (C0 : Cx p l s m args meth c cX4_cut 4 RX4 D cy n0) (hR : meth.sig.returnType = (some .int)) (σ : Sg) (x1 : Int32) (x2 : Int32) (x3 : Int32) (H : Heap) (locs : List Loc) (ls : Array Slot) (hh : Hp D cy n0 ad nT nO s σ H locs) (hl : lv_has ls 4 [(0, .ref (ad 7 0)), (1, .int x1), (2, .int x2), (3, .int x3)]) : Sm (Qr below args s D cy n0 ad nT nO vI 0 0) (f_X4_cut_27 σ x1 x2 x3) p l e rmX4_cut s m args below meth c H locs 0 0 (F0 m 27 ls [.ref (ad 7 0)]) := by
  unfold f_X4_cut_27
  refine s_iconst (v := 2) C0 dX4_cut_27 (by decide) ?_
  refine s_goto (tgt := 78) C0 dX4_cut_28 (by decide) ?_
  exact b_X4_cut_78 C0 hR σ x1 x2 x3 2 _ _ _ hh (lv_sub hl [0, 1, 2, 3] rfl)
def f_X4_cut_73 (σ : Sg) (x1 : Int32) (x2 : Int32) (x3 : Int32) : Option (Int32 × Sg) :=
  (f_X4_cut_78 σ x1 x2 x3 3)
set_option maxRecDepth 100000 in
set_option maxHeartbeats 4000000 in
theorem b_X4_cut_73 (C0 : Cx p l s m args meth c cX4_cut 4 RX4 D cy n0) (hR : meth.sig.returnType = (some .int)) (σ : Sg) (x1 : Int32) (x2 : Int32) (x3 : Int32) (H : Heap) (locs : List Loc) (ls : Array Slot) (hh : Hp D cy n0 ad nT nO s σ H locs) (hl : lv_has ls 4 [(0, .ref (ad 7 0)), (1, .int x1), (2, .int x2), (3, .int x3)]) : Sm (Qr below args s D cy n0 ad nT nO vI 0 0) (f_X4_cut_73 σ x1 x2 x3) p l e rmX4_cut s m args below meth c H locs 0 0 (F0 m 73 ls [.ref (ad 7 0)]) := by
  unfold f_X4_cut_73
  refine s_iconst (v := 3) C0 dX4_cut_73 (by decide) ?_
  refine s_goto (tgt := 78) C0 dX4_cut_74 (by decide) ?_
  exact b_X4_cut_78 C0 hR σ x1 x2 x3 3 _ _ _ hh (lv_sub hl [0, 1, 2, 3] rfl)
def f_X4_cut_0 (σ : Sg) (x1 : Int32) (x2 : Int32) (x3 : Int32) : Option (Int32 × Sg) :=
  ((f_X4_isNone σ x1).bind (fun r1 => (if (r1.1 : Int32) = (0 : Int32) then ((f_X4_isCut r1.2 x2).bind (fun r2 => (if (r2.1 : Int32) = (0 : Int32) then (f_X4_cut_27 r2.2 x1 x2 x3) else ((f_X4_isBetween r2.2 x3 0 3).bind (fun r6 => (if (r6.1 : Int32) = (0 : Int32) then (f_X4_cut_27 r6.2 x1 x2 x3) else (if (x1 : Int32) < 0 ∨ 8 ≤ (x1 : Int32).toNatClampNeg then none else (if ((r6.2.1 8 4 (x1 : Int32).toNatClampNeg) : Int32) = (115 : Int32) then (if (x1 : Int32) < 0 ∨ 8 ≤ (x1 : Int32).toNatClampNeg then none else (if (0 : Int32) < ((r6.2.1 8 16 (x1 : Int32).toNatClampNeg) : Int32) then (f_X4_cut_73 r6.2 x1 x2 x3) else (if (x1 : Int32) < 0 ∨ 8 ≤ (x1 : Int32).toNatClampNeg then none else (if (x1 : Int32) < 0 ∨ 8 ≤ (x1 : Int32).toNatClampNeg then none else ((f_X4_depthOf r6.2 (r6.2.1 8 2 (x1 : Int32).toNatClampNeg) x2).bind (fun r7 => (if (r7.1 + 10) ≤ ((r6.2.1 8 6 (x1 : Int32).toNatClampNeg) : Int32) then (f_X4_cut_78 r7.2 x1 x2 x3 0) else (f_X4_cut_73 r7.2 x1 x2 x3)))))))) else (f_X4_cut_73 r6.2 x1 x2 x3))))))))) else (some (0, r1.2)))))
set_option maxRecDepth 100000 in
set_option maxHeartbeats 4000000 in
theorem b_X4_cut_0 (C0 : Cx p l s m args meth c cX4_cut 4 RX4 D cy n0) (hR : meth.sig.returnType = (some .int)) (σ : Sg) (x1 : Int32) (x2 : Int32) (x3 : Int32) (H : Heap) (locs : List Loc) (ls : Array Slot) (hh : Hp D cy n0 ad nT nO s σ H locs) (hl : lv_has ls 4 [(0, .ref (ad 7 0)), (1, .int x1), (2, .int x2), (3, .int x3)]) : Sm (Qr below args s D cy n0 ad nT nO vI 0 0) (f_X4_cut_0 σ x1 x2 x3) p l e rmX4_cut s m args below meth c H locs 0 0 (F0 m 0 ls []) := by
  unfold f_X4_cut_0
  refine s_aload_n C0 dX4_cut_0 rfl (lv_at hl 0 rfl) ?_
  refine s_iload_n C0 dX4_cut_1 rfl (lv_at hl 1 rfl) ?_
  refine s_V (As := [.int x1]) (rest := []) C0 hh (c_X4_isNone C0.2.2.2.2.2.2 _ x1) (qc56 C0.1.2.2.2.2 ⟨Nat.le_of_ble_eq_true rfl, Nat.le_of_ble_eq_true rfl⟩) (rl_b (by decide)) rfl rfl rfl hl.1 rfl (lv_room (Nat.le_of_ble_eq_true rfl)) dX4_cut_2 ⟨Nat.le_of_ble_eq_true rfl, Nat.le_of_ble_eq_true rfl⟩ (fun r1 H locs hor1 hh => ?_)
  refine s_if_eq (tgt := 10) C0 dX4_cut_5 (by decide) (fun _ => ?_) (fun _ => ?_)
  · refine s_aload_n C0 dX4_cut_10 rfl (lv_at hl 0 rfl) ?_
    refine s_iload_n C0 dX4_cut_11 rfl (lv_at hl 2 rfl) ?_
    refine s_S (As := [.int x2]) (rest := [.ref (ad 7 0)]) C0 hh (c_X4_isCut C0.2.2.2.2.2.2 _ x2) (qc63 C0.1.2.2.2.2 ⟨Nat.le_of_ble_eq_true rfl, Nat.le_of_ble_eq_true rfl⟩) rfl hl.1 rfl (lv_room (Nat.le_of_ble_eq_true rfl)) dX4_cut_12 ⟨Nat.le_of_ble_eq_true rfl, Nat.le_of_ble_eq_true rfl⟩ (fun r2 H locs hor2 hh => ?_)
    refine s_if_eq (tgt := 27) C0 dX4_cut_15 (by decide) (fun _ => ?_) (fun _ => ?_)
    · exact b_X4_cut_27 C0 hR r2.2 x1 x2 x3 _ _ _ hh (lv_sub hl [0, 1, 2, 3] rfl)
    · refine s_iload_n C0 dX4_cut_18 rfl (lv_at hl 3 rfl) ?_
      refine s_iconst (v := 0) C0 dX4_cut_19 (by decide) ?_
      refine s_iconst (v := 3) C0 dX4_cut_20 (by decide) ?_
      refine s_S (As := [.int x3, .int 0, .int 3]) (rest := [.ref (ad 7 0)]) C0 hh (c_X4_isBetween C0.2.2.2.2.2.2 _ x3 0 3) (qc50 C0.1.2.2.2.2 ⟨Nat.le_of_ble_eq_true rfl, Nat.le_of_ble_eq_true rfl⟩) rfl hl.1 rfl (lv_room (Nat.le_of_ble_eq_true rfl)) dX4_cut_21 ⟨Nat.le_of_ble_eq_true rfl, Nat.le_of_ble_eq_true rfl⟩ (fun r6 H locs hor6 hh => ?_)
      refine s_if_ne (tgt := 31) C0 dX4_cut_24 (by decide) (fun _ => ?_) (fun _ => ?_)
      · refine s_aload_n C0 dX4_cut_31 rfl (lv_at hl 0 rfl) ?_
        refine s_get (v := .ref (ad 8 4)) C0 hh (rl_b (by decide)) rfl (T := TX4) (N := 28) rfl hinX4 (by decide) w37 rfl dX4_cut_32 ?_
        refine s_iload_n C0 dX4_cut_35 rfl (lv_at hl 1 rfl) ?_
        refine s_cald (g := (r6.2.1 8 4)) C0 hh rfl (rl_b (by decide)) (fun _ => rfl) (t0 := 0) rfl dX4_cut_36 ?_
        refine s_bipush (v := 115) C0 dX4_cut_37 (by decide) ?_
        refine s_icmp_ne (tgt := 73) C0 dX4_cut_39 (by decide) (fun _ => ?_) (fun _ => ?_)
        · exact b_X4_cut_73 C0 hR r6.2 x1 x2 x3 _ _ _ hh (lv_sub hl [0, 1, 2, 3] rfl)
        · refine s_aload_n C0 dX4_cut_42 rfl (lv_at hl 0 rfl) ?_
          refine s_get (v := .ref (ad 8 16)) C0 hh (rl_b (by decide)) rfl (T := TX4) (N := 28) rfl hinX4 (by decide) w49 rfl dX4_cut_43 ?_
          refine s_iload_n C0 dX4_cut_46 rfl (lv_at hl 1 rfl) ?_
          refine s_iald (g := (r6.2.1 8 16)) C0 hh rfl (rl_b (by decide)) (fun _ => rfl) (t0 := 1) rfl dX4_cut_47 ?_
          refine s_if_gt (tgt := 73) C0 dX4_cut_48 (by decide) (fun _ => ?_) (fun _ => ?_)
          · exact b_X4_cut_73 C0 hR r6.2 x1 x2 x3 _ _ _ hh (lv_sub hl [0, 1, 2, 3] rfl)
          · refine s_aload_n C0 dX4_cut_51 rfl (lv_at hl 0 rfl) ?_
            refine s_get (v := .ref (ad 8 6)) C0 hh (rl_b (by decide)) rfl (T := TX4) (N := 28) rfl hinX4 (by decide) w39 rfl dX4_cut_52 ?_
            refine s_iload_n C0 dX4_cut_55 rfl (lv_at hl 1 rfl) ?_
            refine s_iald (g := (r6.2.1 8 6)) C0 hh rfl (rl_b (by decide)) (fun _ => rfl) (t0 := 1) rfl dX4_cut_56 ?_
            refine s_aload_n C0 dX4_cut_57 rfl (lv_at hl 0 rfl) ?_
            refine s_get (v := .ref (ad 8 2)) C0 hh (rl_b (by decide)) rfl (T := TX4) (N := 28) rfl hinX4 (by decide) w35 rfl dX4_cut_58 ?_
            refine s_iload_n C0 dX4_cut_61 rfl (lv_at hl 1 rfl) ?_
            refine s_cald (g := (r6.2.1 8 2)) C0 hh rfl (rl_b (by decide)) (fun _ => rfl) (t0 := 0) rfl dX4_cut_62 ?_
            refine s_iload_n C0 dX4_cut_63 rfl (lv_at hl 2 rfl) ?_
            refine s_S (As := [.int (r6.2.1 8 2 (x1 : Int32).toNatClampNeg), .int x2]) (rest := [.int (r6.2.1 8 6 (x1 : Int32).toNatClampNeg), .ref (ad 7 0)]) C0 hh (c_X4_depthOf C0.2.2.2.2.2.2 _ (r6.2.1 8 2 (x1 : Int32).toNatClampNeg) x2) (qc52 C0.1.2.2.2.2 ⟨Nat.le_of_ble_eq_true rfl, Nat.le_of_ble_eq_true rfl⟩) rfl hl.1 rfl (lv_room (Nat.le_of_ble_eq_true rfl)) dX4_cut_64 ⟨Nat.le_of_ble_eq_true rfl, Nat.le_of_ble_eq_true rfl⟩ (fun r7 H locs hor7 hh => ?_)
            refine s_bipush (v := 10) C0 dX4_cut_67 (by decide) ?_
            refine s_iadd C0 dX4_cut_69 ?_
            refine s_icmp_ge (tgt := 77) C0 dX4_cut_70 (by decide) (fun _ => ?_) (fun _ => ?_)
            · refine s_iconst (v := 0) C0 dX4_cut_77 (by decide) ?_
              exact b_X4_cut_78 C0 hR r7.2 x1 x2 x3 0 _ _ _ hh (lv_sub hl [0, 1, 2, 3] rfl)
            · exact b_X4_cut_73 C0 hR r7.2 x1 x2 x3 _ _ _ hh (lv_sub hl [0, 1, 2, 3] rfl)
      · exact b_X4_cut_27 C0 hR r6.2 x1 x2 x3 _ _ _ hh (lv_sub hl [0, 1, 2, 3] rfl)
  · refine s_iconst (v := 0) C0 dX4_cut_8 (by decide) ?_
    exact s_iret C0 hh hR rfl (Nat.le_of_ble_eq_true rfl) (Nat.le_of_ble_eq_true rfl) dX4_cut_9
def f_X4_cut (σ : Sg) (x1 : Int32) (x2 : Int32) (x3 : Int32) : Option (Int32 × Sg) := f_X4_cut_0 σ x1 x2 x3
set_option maxRecDepth 100000 in
set_option maxHeartbeats 4000000 in
theorem c_X4_cut (hst : l.stackTraces = false) (σ : Sg) (x1 : Int32) (x2 : Int32) (x3 : Int32) : Ct l yX4_cut (wm yX4_cut cX4_cut 4 (some .int)) rmX4_cut 0 0 vI [.ref (ad 7 0), .int x1, .int x2, .int x3] D cy n0 ad nT nO  σ (f_X4_cut σ x1 x2 x3) := by
  intro r0 h0
  refine Met.ofW (cc := cX4_cut) (maxL := 4) (ret := (some .int)) (by decide +kernel) rfl ?_
  intro p e s m args below meth c s₁ B hml hv
  obtain ⟨C0, hh, hR, rfl⟩ := ent B hml hst hv
  rw [lg_entry_eq]
  have hl := lv_entry ([.ref (ad 7 0), .int x1, .int x2, .int x3]) (n := 4) (Nat.le_of_ble_eq_true rfl)
  generalize (lg_sl ([.ref (ad 7 0), .int x1, .int x2, .int x3]) ++ List.replicate (4 - (lg_sl ([.ref (ad 7 0), .int x1, .int x2, .int x3])).length) Slot.unset).toArray = ls at hl ⊢
  exact b_X4_cut_0 C0 hR σ x1 x2 x3 _ _ _ hh hl r0 h0
theorem qc65 {R : Room} {s : State} {args : Array Value} (ht : ∀ w ∈ allw, w.before args s = true) (hR : (rmX4_most).frames + 1 ≤ R.frames ∧ 8 + (2 + 11) + (rmX4_most).locals ≤ R.locals) : CallB R s args RX4 131 yX4_most cX4_most 2 (some .int) (wm yX4_most cX4_most 2 (some .int)) rmX4_most 0 0 2 ∧ (Cond.static yX4_most).before args s = true := cwS 2 ht (gd_of (fun _ h => h) _ (mS w364 w366 w310 w365)) rfl rfl rfl (by decide +kernel) hR
def rmX4_upcut : Room := { frames := 2, cells := 0, slots := 0, locals := 43 }
def g_X4_upcut_78 (rec78 : Sg → Int32 → Int32 → Int32 → Option (Int32 × Sg)) (σ : Sg) (x1 : Int32) (x2 : Int32) (x3 : Int32) : Option (Int32 × Sg) :=
  (if (x1 : Int32) < 0 ∨ 8 ≤ (x1 : Int32).toNatClampNeg then none else (if ((60 * x1) + (σ.1 8 16 (x1 : Int32).toNatClampNeg)) ≤ (x3 : Int32) then (some (x2, σ)) else (if (x3 : Int32) < 0 ∨ 480 ≤ (x3 : Int32).toNatClampNeg then none else ((f_X4_most σ 0 ((σ.1 8 20 (x3 : Int32).toNatClampNeg) - 1)).bind (fun r3 => (if (x3 : Int32) < 0 ∨ 480 ≤ (x3 : Int32).toNatClampNeg then none else (if (x3 : Int32) < 0 ∨ 480 ≤ (x3 : Int32).toNatClampNeg then none else ((f_X4_most (sv r3.2 8 20 (x3 : Int32).toNatClampNeg r3.1) x2 ((sv r3.2 8 20 (x3 : Int32).toNatClampNeg r3.1).1 8 20 (x3 : Int32).toNatClampNeg)).bind (fun r4 => (rec78 r4.2 x1 r4.1 (x3 + 1)))))))))))
def f_X4_upcut_78 : Nat → Sg → Int32 → Int32 → Int32 → Option (Int32 × Sg)
  | 0 => fun _ _ _ _ => none
  | n + 1 => fun σ x1 x2 x3 => g_X4_upcut_78 (f_X4_upcut_78 n) σ x1 x2 x3
set_option maxRecDepth 100000 in
set_option maxHeartbeats 4000000 in
theorem a_X4_upcut_78 (C0 : Cx p l s m args meth c cX4_upcut 4 RX4 D cy n0) (hR : meth.sig.returnType = (some .int)) (rec78 : Sg → Int32 → Int32 → Int32 → Option (Int32 × Sg)) (hrec78 : ∀ (σ : Sg) (x1 : Int32) (x2 : Int32) (x3 : Int32) (H : Heap) (locs : List Loc) (ls : Array Slot), Hp D cy n0 ad nT nO s σ H locs → lv_has ls 4 [(0, .ref (ad 7 0)), (1, .int x1), (2, .int x2), (3, .int x3)] → Sm (Qr below args s D cy n0 ad nT nO vI 0 0) (rec78 σ x1 x2 x3) p l e rmX4_upcut s m args below meth c H locs 0 0 (F0 m 78 ls [])) (σ : Sg) (x1 : Int32) (x2 : Int32) (x3 : Int32) (H : Heap) (locs : List Loc) (ls : Array Slot) (hh : Hp D cy n0 ad nT nO s σ H locs) (hl : lv_has ls 4 [(0, .ref (ad 7 0)), (1, .int x1), (2, .int x2), (3, .int x3)]) : Sm (Qr below args s D cy n0 ad nT nO vI 0 0) (g_X4_upcut_78 rec78 σ x1 x2 x3) p l e rmX4_upcut s m args below meth c H locs 0 0 (F0 m 78 ls []) := by
  unfold g_X4_upcut_78
  refine s_iload_n C0 dX4_upcut_78 rfl (lv_at hl 3 rfl) ?_
  refine s_bipush (v := 60) C0 dX4_upcut_79 (by decide) ?_
  refine s_iload_n C0 dX4_upcut_81 rfl (lv_at hl 1 rfl) ?_
  refine s_imul C0 dX4_upcut_82 ?_
  refine s_aload_n C0 dX4_upcut_83 rfl (lv_at hl 0 rfl) ?_
  refine s_get (v := .ref (ad 8 16)) C0 hh (rl_b (by decide)) rfl (T := TX4) (N := 28) rfl hinX4 (by decide) w49 rfl dX4_upcut_84 ?_
  refine s_iload_n C0 dX4_upcut_87 rfl (lv_at hl 1 rfl) ?_
  refine s_iald (g := (σ.1 8 16)) C0 hh rfl (rl_b (by decide)) (fun _ => rfl) (t0 := 1) rfl dX4_upcut_88 ?_
  refine s_iadd C0 dX4_upcut_89 ?_
  refine s_icmp_ge (tgt := 128) C0 dX4_upcut_90 (by decide) (fun _ => ?_) (fun _ => ?_)
  · refine s_iload_n C0 dX4_upcut_128 rfl (lv_at hl 2 rfl) ?_
    exact s_iret C0 hh hR rfl (Nat.le_of_ble_eq_true rfl) (Nat.le_of_ble_eq_true rfl) dX4_upcut_129
  · refine s_aload_n C0 dX4_upcut_93 rfl (lv_at hl 0 rfl) ?_
    refine s_get (v := .ref (ad 8 20)) C0 hh (rl_b (by decide)) rfl (T := TX4) (N := 28) rfl hinX4 (by decide) w54 rfl dX4_upcut_94 ?_
    refine s_iload_n C0 dX4_upcut_97 rfl (lv_at hl 3 rfl) ?_
    refine s_iconst (v := 0) C0 dX4_upcut_98 (by decide) ?_
    refine s_aload_n C0 dX4_upcut_99 rfl (lv_at hl 0 rfl) ?_
    refine s_get (v := .ref (ad 8 20)) C0 hh (rl_b (by decide)) rfl (T := TX4) (N := 28) rfl hinX4 (by decide) w54 rfl dX4_upcut_100 ?_
    refine s_iload_n C0 dX4_upcut_103 rfl (lv_at hl 3 rfl) ?_
    refine s_iald (g := (σ.1 8 20)) C0 hh rfl (rl_b (by decide)) (fun _ => rfl) (t0 := 1) rfl dX4_upcut_104 ?_
    refine s_iconst (v := 1) C0 dX4_upcut_105 (by decide) ?_
    refine s_isub C0 dX4_upcut_106 ?_
    refine s_S (As := [.int 0, .int ((σ.1 8 20 (x3 : Int32).toNatClampNeg) - 1)]) (rest := [.int x3, .ref (ad 8 20)]) C0 hh (c_X4_most C0.2.2.2.2.2.2 _ 0 ((σ.1 8 20 (x3 : Int32).toNatClampNeg) - 1)) (qc65 C0.1.2.2.2.2 ⟨Nat.le_of_ble_eq_true rfl, Nat.le_of_ble_eq_true rfl⟩) rfl hl.1 rfl (lv_room (Nat.le_of_ble_eq_true rfl)) dX4_upcut_107 ⟨Nat.le_of_ble_eq_true rfl, Nat.le_of_ble_eq_true rfl⟩ (fun r3 H locs hor3 hh => ?_)
    refine s_iast C0 hh (rl_b (by decide)) (fun _ => rfl) (t0 := 1) rfl (by decide) (by decide) (by decide) dX4_upcut_110 (fun H locs hh => ?_)
    refine s_iload_n C0 dX4_upcut_111 rfl (lv_at hl 2 rfl) ?_
    refine s_aload_n C0 dX4_upcut_112 rfl (lv_at hl 0 rfl) ?_
    refine s_get (v := .ref (ad 8 20)) C0 hh (rl_b (by decide)) rfl (T := TX4) (N := 28) rfl hinX4 (by decide) w54 rfl dX4_upcut_113 ?_
    refine s_iload_n C0 dX4_upcut_116 rfl (lv_at hl 3 rfl) ?_
    refine s_iald (g := ((sv r3.2 8 20 (x3 : Int32).toNatClampNeg r3.1).1 8 20)) C0 hh rfl (rl_b (by decide)) (fun _ => rfl) (t0 := 1) rfl dX4_upcut_117 ?_
    refine s_S (As := [.int x2, .int ((sv r3.2 8 20 (x3 : Int32).toNatClampNeg r3.1).1 8 20 (x3 : Int32).toNatClampNeg)]) (rest := []) C0 hh (c_X4_most C0.2.2.2.2.2.2 _ x2 ((sv r3.2 8 20 (x3 : Int32).toNatClampNeg r3.1).1 8 20 (x3 : Int32).toNatClampNeg)) (qc65 C0.1.2.2.2.2 ⟨Nat.le_of_ble_eq_true rfl, Nat.le_of_ble_eq_true rfl⟩) rfl hl.1 rfl (lv_room (Nat.le_of_ble_eq_true rfl)) dX4_upcut_118 ⟨Nat.le_of_ble_eq_true rfl, Nat.le_of_ble_eq_true rfl⟩ (fun r4 H locs hor4 hh => ?_)
    refine s_istore_n (lv' := [(2, .int r4.1), (0, .ref (ad 7 0)), (1, .int x1), (3, .int x3)]) C0 dX4_upcut_121 rfl hl (by decide) rfl (fun ls hl => ?_)
    refine s_iinc (k := 3) (v := (x3 + 1)) (lv' := [(3, .int (x3 + 1)), (2, .int r4.1), (0, .ref (ad 7 0)), (1, .int x1)]) C0 dX4_upcut_122 hl rfl rfl (by decide) rfl (fun ls hl => ?_)
    refine s_goto (tgt := 78) C0 dX4_upcut_125 (by decide) ?_
    exact hrec78 r4.2 x1 r4.1 (x3 + 1) _ _ _ hh (lv_sub hl [2, 3, 1, 0] rfl)
theorem b_X4_upcut_78 (C0 : Cx p l s m args meth c cX4_upcut 4 RX4 D cy n0) (hR : meth.sig.returnType = (some .int)) : ∀ (n : Nat) (σ : Sg) (x1 : Int32) (x2 : Int32) (x3 : Int32) (H : Heap) (locs : List Loc) (ls : Array Slot) (hh : Hp D cy n0 ad nT nO s σ H locs) (hl : lv_has ls 4 [(0, .ref (ad 7 0)), (1, .int x1), (2, .int x2), (3, .int x3)]), Sm (Qr below args s D cy n0 ad nT nO vI 0 0) (f_X4_upcut_78 n σ x1 x2 x3) p l e rmX4_upcut s m args below meth c H locs 0 0 (F0 m 78 ls []) := by
  intro n
  induction n with
  | zero => intros; intro r h; cases h
  | succ n ih => intro σ x1 x2 x3 H locs ls hh hl; exact a_X4_upcut_78 C0 hR (f_X4_upcut_78 n) ih σ x1 x2 x3 H locs ls hh hl
def f_X4_upcut_56 (σ : Sg) (x1 : Int32) (s0 : Int32) : Option (Int32 × Sg) :=
  ((f_X4_isWrong σ s0).bind (fun r2 => (if (r2.1 : Int32) = (0 : Int32) then (if (x1 : Int32) < 0 ∨ 8 ≤ (x1 : Int32).toNatClampNeg then none else (f_X4_upcut_78 70 (sv r2.2 8 17 (x1 : Int32).toNatClampNeg (vp_nar .boolean 1)) x1 0 (60 * x1))) else (some (0, r2.2)))))
set_option maxRecDepth 100000 in
set_option maxHeartbeats 4000000 in
theorem b_X4_upcut_56 (C0 : Cx p l s m args meth c cX4_upcut 4 RX4 D cy n0) (hR : meth.sig.returnType = (some .int)) (σ : Sg) (x1 : Int32) (s0 : Int32) (H : Heap) (locs : List Loc) (ls : Array Slot) (hh : Hp D cy n0 ad nT nO s σ H locs) (hl : lv_has ls 4 [(0, .ref (ad 7 0)), (1, .int x1)]) : Sm (Qr below args s D cy n0 ad nT nO vI 0 0) (f_X4_upcut_56 σ x1 s0) p l e rmX4_upcut s m args below meth c H locs 0 0 (F0 m 56 ls [.int s0, .ref (ad 7 0)]) := by
  unfold f_X4_upcut_56
  refine s_V (As := [.int s0]) (rest := []) C0 hh (c_X4_isWrong C0.2.2.2.2.2.2 _ s0) (qc51 C0.1.2.2.2.2 ⟨Nat.le_of_ble_eq_true rfl, Nat.le_of_ble_eq_true rfl⟩) (rl_b (by decide)) rfl rfl rfl hl.1 rfl (lv_room (Nat.le_of_ble_eq_true rfl)) dX4_upcut_56 ⟨Nat.le_of_ble_eq_true rfl, Nat.le_of_ble_eq_true rfl⟩ (fun r2 H locs hor2 hh => ?_)
  refine s_if_eq (tgt := 64) C0 dX4_upcut_59 (by decide) (fun _ => ?_) (fun _ => ?_)
  · refine s_aload_n C0 dX4_upcut_64 rfl (lv_at hl 0 rfl) ?_
    refine s_get (v := .ref (ad 8 17)) C0 hh (rl_b (by decide)) rfl (T := TX4) (N := 28) rfl hinX4 (by decide) w51 rfl dX4_upcut_65 ?_
    refine s_iload_n C0 dX4_upcut_68 rfl (lv_at hl 1 rfl) ?_
    refine s_iconst (v := 1) C0 dX4_upcut_69 (by decide) ?_
    refine s_zast C0 hh (rl_b (by decide)) (fun _ => rfl) (t0 := 2) rfl (by decide) (by decide) (by decide) dX4_upcut_70 (fun H locs hh => ?_)
    refine s_iconst (v := 0) C0 dX4_upcut_71 (by decide) ?_
    refine s_istore_n (lv' := [(2, .int 0), (0, .ref (ad 7 0)), (1, .int x1)]) C0 dX4_upcut_72 rfl hl (by decide) rfl (fun ls hl => ?_)
    refine s_bipush (v := 60) C0 dX4_upcut_73 (by decide) ?_
    refine s_iload_n C0 dX4_upcut_75 rfl (lv_at hl 2 rfl) ?_
    refine s_imul C0 dX4_upcut_76 ?_
    refine s_istore_n (lv' := [(3, .int (60 * x1)), (2, .int 0), (0, .ref (ad 7 0)), (1, .int x1)]) C0 dX4_upcut_77 rfl hl (by decide) rfl (fun ls hl => ?_)
    exact b_X4_upcut_78 C0 hR 70 (sv r2.2 8 17 (x1 : Int32).toNatClampNeg (vp_nar .boolean 1)) x1 0 (60 * x1) _ _ _ hh (lv_sub hl [2, 3, 1, 0] rfl)
  · refine s_iconst (v := 0) C0 dX4_upcut_62 (by decide) ?_
    exact s_iret C0 hh hR rfl (Nat.le_of_ble_eq_true rfl) (Nat.le_of_ble_eq_true rfl) dX4_upcut_63
def f_X4_upcut_51 (σ : Sg) (x1 : Int32) : Option (Int32 × Sg) :=
  (f_X4_upcut_56 σ x1 2)
set_option maxRecDepth 100000 in
set_option maxHeartbeats 4000000 in
theorem b_X4_upcut_51 (C0 : Cx p l s m args meth c cX4_upcut 4 RX4 D cy n0) (hR : meth.sig.returnType = (some .int)) (σ : Sg) (x1 : Int32) (H : Heap) (locs : List Loc) (ls : Array Slot) (hh : Hp D cy n0 ad nT nO s σ H locs) (hl : lv_has ls 4 [(0, .ref (ad 7 0)), (1, .int x1)]) : Sm (Qr below args s D cy n0 ad nT nO vI 0 0) (f_X4_upcut_51 σ x1) p l e rmX4_upcut s m args below meth c H locs 0 0 (F0 m 51 ls [.ref (ad 7 0)]) := by
  unfold f_X4_upcut_51
  refine s_iconst (v := 2) C0 dX4_upcut_51 (by decide) ?_
  refine s_goto (tgt := 56) C0 dX4_upcut_52 (by decide) ?_
  exact b_X4_upcut_56 C0 hR σ x1 2 _ _ _ hh (lv_sub hl [0, 1] rfl)
def f_X4_upcut_0 (σ : Sg) (x1 : Int32) : Option (Int32 × Sg) :=
  ((f_X4_isNone σ x1).bind (fun r1 => (if (r1.1 : Int32) = (0 : Int32) then (if (x1 : Int32) < 0 ∨ 8 ≤ (x1 : Int32).toNatClampNeg then none else (if ((r1.2.1 8 2 (x1 : Int32).toNatClampNeg) : Int32) = (115 : Int32) then (f_X4_upcut_51 r1.2 x1) else (if (x1 : Int32) < 0 ∨ 8 ≤ (x1 : Int32).toNatClampNeg then none else (if ((r1.2.1 8 4 (x1 : Int32).toNatClampNeg) : Int32) = (115 : Int32) then (if (x1 : Int32) < 0 ∨ 8 ≤ (x1 : Int32).toNatClampNeg then none else (if ((r1.2.1 8 16 (x1 : Int32).toNatClampNeg) : Int32) = (0 : Int32) then (f_X4_upcut_51 r1.2 x1) else (if (x1 : Int32) < 0 ∨ 8 ≤ (x1 : Int32).toNatClampNeg then none else (if ((r1.2.1 8 17 (x1 : Int32).toNatClampNeg) : Int32) = (0 : Int32) then (f_X4_upcut_56 r1.2 x1 0) else (f_X4_upcut_51 r1.2 x1))))) else (f_X4_upcut_51 r1.2 x1))))) else (some (0, r1.2)))))
set_option maxRecDepth 100000 in
set_option maxHeartbeats 4000000 in
theorem b_X4_upcut_0 (C0 : Cx p l s m args meth c cX4_upcut 4 RX4 D cy n0) (hR : meth.sig.returnType = (some .int)) (σ : Sg) (x1 : Int32) (H : Heap) (locs : List Loc) (ls : Array Slot) (hh : Hp D cy n0 ad nT nO s σ H locs) (hl : lv_has ls 4 [(0, .ref (ad 7 0)), (1, .int x1)]) : Sm (Qr below args s D cy n0 ad nT nO vI 0 0) (f_X4_upcut_0 σ x1) p l e rmX4_upcut s m args below meth c H locs 0 0 (F0 m 0 ls []) := by
  unfold f_X4_upcut_0
  refine s_aload_n C0 dX4_upcut_0 rfl (lv_at hl 0 rfl) ?_
  refine s_iload_n C0 dX4_upcut_1 rfl (lv_at hl 1 rfl) ?_
  refine s_V (As := [.int x1]) (rest := []) C0 hh (c_X4_isNone C0.2.2.2.2.2.2 _ x1) (qc56 C0.1.2.2.2.2 ⟨Nat.le_of_ble_eq_true rfl, Nat.le_of_ble_eq_true rfl⟩) (rl_b (by decide)) rfl rfl rfl hl.1 rfl (lv_room (Nat.le_of_ble_eq_true rfl)) dX4_upcut_2 ⟨Nat.le_of_ble_eq_true rfl, Nat.le_of_ble_eq_true rfl⟩ (fun r1 H locs hor1 hh => ?_)
  refine s_if_eq (tgt := 10) C0 dX4_upcut_5 (by decide) (fun _ => ?_) (fun _ => ?_)
  · refine s_aload_n C0 dX4_upcut_10 rfl (lv_at hl 0 rfl) ?_
    refine s_aload_n C0 dX4_upcut_11 rfl (lv_at hl 0 rfl) ?_
    refine s_get (v := .ref (ad 8 2)) C0 hh (rl_b (by decide)) rfl (T := TX4) (N := 28) rfl hinX4 (by decide) w35 rfl dX4_upcut_12 ?_
    refine s_iload_n C0 dX4_upcut_15 rfl (lv_at hl 1 rfl) ?_
    refine s_cald (g := (r1.2.1 8 2)) C0 hh rfl (rl_b (by decide)) (fun _ => rfl) (t0 := 0) rfl dX4_upcut_16 ?_
    refine s_bipush (v := 115) C0 dX4_upcut_17 (by decide) ?_
    refine s_icmp_eq (tgt := 51) C0 dX4_upcut_19 (by decide) (fun _ => ?_) (fun _ => ?_)
    · exact b_X4_upcut_51 C0 hR r1.2 x1 _ _ _ hh (lv_sub hl [0, 1] rfl)
    · refine s_aload_n C0 dX4_upcut_22 rfl (lv_at hl 0 rfl) ?_
      refine s_get (v := .ref (ad 8 4)) C0 hh (rl_b (by decide)) rfl (T := TX4) (N := 28) rfl hinX4 (by decide) w37 rfl dX4_upcut_23 ?_
      refine s_iload_n C0 dX4_upcut_26 rfl (lv_at hl 1 rfl) ?_
      refine s_cald (g := (r1.2.1 8 4)) C0 hh rfl (rl_b (by decide)) (fun _ => rfl) (t0 := 0) rfl dX4_upcut_27 ?_
      refine s_bipush (v := 115) C0 dX4_upcut_28 (by decide) ?_
      refine s_icmp_ne (tgt := 51) C0 dX4_upcut_30 (by decide) (fun _ => ?_) (fun _ => ?_)
      · exact b_X4_upcut_51 C0 hR r1.2 x1 _ _ _ hh (lv_sub hl [0, 1] rfl)
      · refine s_aload_n C0 dX4_upcut_33 rfl (lv_at hl 0 rfl) ?_
        refine s_get (v := .ref (ad 8 16)) C0 hh (rl_b (by decide)) rfl (T := TX4) (N := 28) rfl hinX4 (by decide) w49 rfl dX4_upcut_34 ?_
        refine s_iload_n C0 dX4_upcut_37 rfl (lv_at hl 1 rfl) ?_
        refine s_iald (g := (r1.2.1 8 16)) C0 hh rfl (rl_b (by decide)) (fun _ => rfl) (t0 := 1) rfl dX4_upcut_38 ?_
        refine s_if_eq (tgt := 51) C0 dX4_upcut_39 (by decide) (fun _ => ?_) (fun _ => ?_)
        · exact b_X4_upcut_51 C0 hR r1.2 x1 _ _ _ hh (lv_sub hl [0, 1] rfl)
        · refine s_aload_n C0 dX4_upcut_42 rfl (lv_at hl 0 rfl) ?_
          refine s_get (v := .ref (ad 8 17)) C0 hh (rl_b (by decide)) rfl (T := TX4) (N := 28) rfl hinX4 (by decide) w51 rfl dX4_upcut_43 ?_
          refine s_iload_n C0 dX4_upcut_46 rfl (lv_at hl 1 rfl) ?_
          refine s_zald (g := (r1.2.1 8 17)) C0 hh rfl (rl_b (by decide)) (fun _ => rfl) (t0 := 2) rfl dX4_upcut_47 ?_
          refine s_if_eq (tgt := 55) C0 dX4_upcut_48 (by decide) (fun _ => ?_) (fun _ => ?_)
          · refine s_iconst (v := 0) C0 dX4_upcut_55 (by decide) ?_
            exact b_X4_upcut_56 C0 hR r1.2 x1 0 _ _ _ hh (lv_sub hl [0, 1] rfl)
          · exact b_X4_upcut_51 C0 hR r1.2 x1 _ _ _ hh (lv_sub hl [0, 1] rfl)
  · refine s_iconst (v := 0) C0 dX4_upcut_8 (by decide) ?_
    exact s_iret C0 hh hR rfl (Nat.le_of_ble_eq_true rfl) (Nat.le_of_ble_eq_true rfl) dX4_upcut_9
def f_X4_upcut (σ : Sg) (x1 : Int32) : Option (Int32 × Sg) := f_X4_upcut_0 σ x1
set_option maxRecDepth 100000 in
set_option maxHeartbeats 4000000 in
theorem c_X4_upcut (hst : l.stackTraces = false) (σ : Sg) (x1 : Int32) : Ct l yX4_upcut (wm yX4_upcut cX4_upcut 4 (some .int)) rmX4_upcut 0 0 vI [.ref (ad 7 0), .int x1] D cy n0 ad nT nO  σ (f_X4_upcut σ x1) := by
  intro r0 h0
  refine Met.ofW (cc := cX4_upcut) (maxL := 4) (ret := (some .int)) (by decide +kernel) rfl ?_
  intro p e s m args below meth c s₁ B hml hv
  obtain ⟨C0, hh, hR, rfl⟩ := ent B hml hst hv
  rw [lg_entry_eq]
  have hl := lv_entry ([.ref (ad 7 0), .int x1]) (n := 4) (Nat.le_of_ble_eq_true rfl)
  generalize (lg_sl ([.ref (ad 7 0), .int x1]) ++ List.replicate (4 - (lg_sl ([.ref (ad 7 0), .int x1])).length) Slot.unset).toArray = ls at hl ⊢
  exact b_X4_upcut_0 C0 hR σ x1 _ _ _ hh hl r0 h0

def rmX4_teeth : Room := { frames := 2, cells := 0, slots := 0, locals := 43 }
def f_X4_teeth_0 (σ : Sg) (x1 : Int32) : Option (Int32 × Sg) :=
  ((f_X4_isNone σ x1).bind (fun r1 => (if (r1.1 : Int32) = (0 : Int32) then (if (x1 : Int32) < 0 ∨ 8 ≤ (x1 : Int32).toNatClampNeg then none else (some ((r1.2.1 8 16 (x1 : Int32).toNatClampNeg), r1.2))) else (some (0, r1.2)))))
set_option maxRecDepth 100000 in
set_option maxHeartbeats 4000000 in
theorem b_X4_teeth_0 (C0 : Cx p l s m args meth c cX4_teeth 2 RX4 D cy n0) (hR : meth.sig.returnType = (some .int)) (σ : Sg) (x1 : Int32) (H : Heap) (locs : List Loc) (ls : Array Slot) (hh : Hp D cy n0 ad nT nO s σ H locs) (hl : lv_has ls 2 [(0, .ref (ad 7 0)), (1, .int x1)]) : Sm (Qr below args s D cy n0 ad nT nO vI 0 0) (f_X4_teeth_0 σ x1) p l e rmX4_teeth s m args below meth c H locs 0 0 (F0 m 0 ls []) := by
  unfold f_X4_teeth_0
  refine s_aload_n C0 dX4_teeth_0 rfl (lv_at hl 0 rfl) ?_
  refine s_iload_n C0 dX4_teeth_1 rfl (lv_at hl 1 rfl) ?_
  refine s_V (As := [.int x1]) (rest := []) C0 hh (c_X4_isNone C0.2.2.2.2.2.2 _ x1) (qc56 C0.1.2.2.2.2 ⟨Nat.le_of_ble_eq_true rfl, Nat.le_of_ble_eq_true rfl⟩) (rl_b (by decide)) rfl rfl rfl hl.1 rfl (lv_room (Nat.le_of_ble_eq_true rfl)) dX4_teeth_2 ⟨Nat.le_of_ble_eq_true rfl, Nat.le_of_ble_eq_true rfl⟩ (fun r1 H locs hor1 hh => ?_)
  refine s_if_eq (tgt := 12) C0 dX4_teeth_5 (by decide) (fun _ => ?_) (fun _ => ?_)
  · refine s_aload_n C0 dX4_teeth_12 rfl (lv_at hl 0 rfl) ?_
    refine s_get (v := .ref (ad 8 16)) C0 hh (rl_b (by decide)) rfl (T := TX4) (N := 28) rfl hinX4 (by decide) w49 rfl dX4_teeth_13 ?_
    refine s_iload_n C0 dX4_teeth_16 rfl (lv_at hl 1 rfl) ?_
    refine s_iald (g := (r1.2.1 8 16)) C0 hh rfl (rl_b (by decide)) (fun _ => rfl) (t0 := 1) rfl dX4_teeth_17 ?_
    exact s_iret C0 hh hR rfl (Nat.le_of_ble_eq_true rfl) (Nat.le_of_ble_eq_true rfl) dX4_teeth_18
  · refine s_iconst (v := 0) C0 dX4_teeth_8 (by decide) ?_
    refine s_goto (tgt := 18) C0 dX4_teeth_9 (by decide) ?_
    exact s_iret C0 hh hR rfl (Nat.le_of_ble_eq_true rfl) (Nat.le_of_ble_eq_true rfl) dX4_teeth_18
def f_X4_teeth (σ : Sg) (x1 : Int32) : Option (Int32 × Sg) := f_X4_teeth_0 σ x1
set_option maxRecDepth 100000 in
set_option maxHeartbeats 4000000 in
theorem c_X4_teeth (hst : l.stackTraces = false) (σ : Sg) (x1 : Int32) : Ct l yX4_teeth (wm yX4_teeth cX4_teeth 2 (some .int)) rmX4_teeth 0 0 vI [.ref (ad 7 0), .int x1] D cy n0 ad nT nO  σ (f_X4_teeth σ x1) := by
  intro r0 h0
  refine Met.ofW (cc := cX4_teeth) (maxL := 2) (ret := (some .int)) (by decide +kernel) rfl ?_
  intro p e s m args below meth c s₁ B hml hv
  obtain ⟨C0, hh, hR, rfl⟩ := ent B hml hst hv
  rw [lg_entry_eq]
  have hl := lv_entry ([.ref (ad 7 0), .int x1]) (n := 2) (Nat.le_of_ble_eq_true rfl)
  generalize (lg_sl ([.ref (ad 7 0), .int x1]) ++ List.replicate (2 - (lg_sl ([.ref (ad 7 0), .int x1])).length) Slot.unset).toArray = ls at hl ⊢
  exact b_X4_teeth_0 C0 hR σ x1 _ _ _ hh hl r0 h0
theorem qc66 {R : Room} {s : State} {args : Array Value} (ht : ∀ w ∈ allw, w.before args s = true) (hR : (rmX4_isNoTooth).frames + 1 ≤ R.frames ∧ 8 + (3 + 11) + (rmX4_isNoTooth).locals ≤ R.locals) : CallW R s args RX4 RX4 134 yX4_isNoTooth cX4_isNoTooth 3 (some .boolean) (wm yX4_isNoTooth cX4_isNoTooth 3 (some .boolean)) rmX4_isNoTooth 0 0 2 := cwV 2 ht (gd_of (fun _ h => h) _ (mV w367 w369 w370 w310 w368)) rfl rfl rfl (by decide +kernel) hR
def rmX4_place : Room := { frames := 3, cells := 0, slots := 0, locals := 65 }
def f_X4_place_0 (σ : Sg) (x1 : Int32) (x2 : Int32) : Option (Int32 × Sg) :=
  ((f_X4_isNoTooth σ x1 x2).bind (fun r1 => (if (r1.1 : Int32) = (0 : Int32) then ((f_X4_placeOf r1.2 x1 x2).bind (fun r2 => (some (r2.1, r2.2)))) else (some (0, r1.2)))))
set_option maxRecDepth 100000 in
set_option maxHeartbeats 4000000 in
theorem b_X4_place_0 (C0 : Cx p l s m args meth c cX4_place 3 RX4 D cy n0) (hR : meth.sig.returnType = (some .int)) (σ : Sg) (x1 : Int32) (x2 : Int32) (H : Heap) (locs : List Loc) (ls : Array Slot) (hh : Hp D cy n0 ad nT nO s σ H locs) (hl : lv_has ls 3 [(0, .ref (ad 7 0)), (1, .int x1), (2, .int x2)]) : Sm (Qr below args s D cy n0 ad nT nO vI 0 0) (f_X4_place_0 σ x1 x2) p l e rmX4_place s m args below meth c H locs 0 0 (F0 m 0 ls []) := by
  unfold f_X4_place_0
  refine s_aload_n C0 dX4_place_0 rfl (lv_at hl 0 rfl) ?_
  refine s_iload_n C0 dX4_place_1 rfl (lv_at hl 1 rfl) ?_
  refine s_iload_n C0 dX4_place_2 rfl (lv_at hl 2 rfl) ?_
  refine s_V (As := [.int x1, .int x2]) (rest := []) C0 hh (c_X4_isNoTooth C0.2.2.2.2.2.2 _ x1 x2) (qc66 C0.1.2.2.2.2 ⟨Nat.le_of_ble_eq_true rfl, Nat.le_of_ble_eq_true rfl⟩) (rl_b (by decide)) rfl rfl rfl hl.1 rfl (lv_room (Nat.le_of_ble_eq_true rfl)) dX4_place_3 ⟨Nat.le_of_ble_eq_true rfl, Nat.le_of_ble_eq_true rfl⟩ (fun r1 H locs hor1 hh => ?_)
  refine s_if_eq (tgt := 13) C0 dX4_place_6 (by decide) (fun _ => ?_) (fun _ => ?_)
  · refine s_aload_n C0 dX4_place_13 rfl (lv_at hl 0 rfl) ?_
    refine s_iload_n C0 dX4_place_14 rfl (lv_at hl 1 rfl) ?_
    refine s_iload_n C0 dX4_place_15 rfl (lv_at hl 2 rfl) ?_
    refine s_V (As := [.int x1, .int x2]) (rest := []) C0 hh (c_X4_placeOf C0.2.2.2.2.2.2 _ x1 x2) (qc64 C0.1.2.2.2.2 ⟨Nat.le_of_ble_eq_true rfl, Nat.le_of_ble_eq_true rfl⟩) (rl_b (by decide)) rfl rfl rfl hl.1 rfl (lv_room (Nat.le_of_ble_eq_true rfl)) dX4_place_16 ⟨Nat.le_of_ble_eq_true rfl, Nat.le_of_ble_eq_true rfl⟩ (fun r2 H locs hor2 hh => ?_)
    exact s_iret C0 hh hR rfl (Nat.le_of_ble_eq_true rfl) (Nat.le_of_ble_eq_true rfl) dX4_place_19
  · refine s_iconst (v := 0) C0 dX4_place_9 (by decide) ?_
    refine s_goto (tgt := 19) C0 dX4_place_10 (by decide) ?_
    exact s_iret C0 hh hR rfl (Nat.le_of_ble_eq_true rfl) (Nat.le_of_ble_eq_true rfl) dX4_place_19
def f_X4_place (σ : Sg) (x1 : Int32) (x2 : Int32) : Option (Int32 × Sg) := f_X4_place_0 σ x1 x2
set_option maxRecDepth 100000 in
set_option maxHeartbeats 4000000 in
theorem c_X4_place (hst : l.stackTraces = false) (σ : Sg) (x1 : Int32) (x2 : Int32) : Ct l yX4_place (wm yX4_place cX4_place 3 (some .int)) rmX4_place 0 0 vI [.ref (ad 7 0), .int x1, .int x2] D cy n0 ad nT nO  σ (f_X4_place σ x1 x2) := by
  intro r0 h0
  refine Met.ofW (cc := cX4_place) (maxL := 3) (ret := (some .int)) (by decide +kernel) rfl ?_
  intro p e s m args below meth c s₁ B hml hv
  obtain ⟨C0, hh, hR, rfl⟩ := ent B hml hst hv
  rw [lg_entry_eq]
  have hl := lv_entry ([.ref (ad 7 0), .int x1, .int x2]) (n := 3) (Nat.le_of_ble_eq_true rfl)
  generalize (lg_sl ([.ref (ad 7 0), .int x1, .int x2]) ++ List.replicate (3 - (lg_sl ([.ref (ad 7 0), .int x1, .int x2])).length) Slot.unset).toArray = ls at hl ⊢
  exact b_X4_place_0 C0 hR σ x1 x2 _ _ _ hh hl r0 h0

def rmX4_height : Room := { frames := 3, cells := 0, slots := 0, locals := 65 }
def f_X4_height_0 (σ : Sg) (x1 : Int32) (x2 : Int32) : Option (Int32 × Sg) :=
  ((f_X4_isNoTooth σ x1 x2).bind (fun r1 => (if (r1.1 : Int32) = (0 : Int32) then (if (((60 * x1) + x2) : Int32) < 0 ∨ 480 ≤ (((60 * x1) + x2) : Int32).toNatClampNeg then none else (some ((r1.2.1 8 20 (((60 * x1) + x2) : Int32).toNatClampNeg), r1.2))) else (some (0, r1.2)))))
set_option maxRecDepth 100000 in
set_option maxHeartbeats 4000000 in
theorem b_X4_height_0 (C0 : Cx p l s m args meth c cX4_height 3 RX4 D cy n0) (hR : meth.sig.returnType = (some .int)) (σ : Sg) (x1 : Int32) (x2 : Int32) (H : Heap) (locs : List Loc) (ls : Array Slot) (hh : Hp D cy n0 ad nT nO s σ H locs) (hl : lv_has ls 3 [(0, .ref (ad 7 0)), (1, .int x1), (2, .int x2)]) : Sm (Qr below args s D cy n0 ad nT nO vI 0 0) (f_X4_height_0 σ x1 x2) p l e rmX4_height s m args below meth c H locs 0 0 (F0 m 0 ls []) := by
  unfold f_X4_height_0
  refine s_aload_n C0 dX4_height_0 rfl (lv_at hl 0 rfl) ?_
  refine s_iload_n C0 dX4_height_1 rfl (lv_at hl 1 rfl) ?_
  refine s_iload_n C0 dX4_height_2 rfl (lv_at hl 2 rfl) ?_
  refine s_V (As := [.int x1, .int x2]) (rest := []) C0 hh (c_X4_isNoTooth C0.2.2.2.2.2.2 _ x1 x2) (qc66 C0.1.2.2.2.2 ⟨Nat.le_of_ble_eq_true rfl, Nat.le_of_ble_eq_true rfl⟩) (rl_b (by decide)) rfl rfl rfl hl.1 rfl (lv_room (Nat.le_of_ble_eq_true rfl)) dX4_height_3 ⟨Nat.le_of_ble_eq_true rfl, Nat.le_of_ble_eq_true rfl⟩ (fun r1 H locs hor1 hh => ?_)
  refine s_if_eq (tgt := 13) C0 dX4_height_6 (by decide) (fun _ => ?_) (fun _ => ?_)
  · refine s_aload_n C0 dX4_height_13 rfl (lv_at hl 0 rfl) ?_
    refine s_get (v := .ref (ad 8 20)) C0 hh (rl_b (by decide)) rfl (T := TX4) (N := 28) rfl hinX4 (by decide) w54 rfl dX4_height_14 ?_
    refine s_bipush (v := 60) C0 dX4_height_17 (by decide) ?_
    refine s_iload_n C0 dX4_height_19 rfl (lv_at hl 1 rfl) ?_
    refine s_imul C0 dX4_height_20 ?_
    refine s_iload_n C0 dX4_height_21 rfl (lv_at hl 2 rfl) ?_
    refine s_iadd C0 dX4_height_22 ?_
    refine s_iald (g := (r1.2.1 8 20)) C0 hh rfl (rl_b (by decide)) (fun _ => rfl) (t0 := 1) rfl dX4_height_23 ?_
    exact s_iret C0 hh hR rfl (Nat.le_of_ble_eq_true rfl) (Nat.le_of_ble_eq_true rfl) dX4_height_24
  · refine s_iconst (v := 0) C0 dX4_height_9 (by decide) ?_
    refine s_goto (tgt := 24) C0 dX4_height_10 (by decide) ?_
    exact s_iret C0 hh hR rfl (Nat.le_of_ble_eq_true rfl) (Nat.le_of_ble_eq_true rfl) dX4_height_24
def f_X4_height (σ : Sg) (x1 : Int32) (x2 : Int32) : Option (Int32 × Sg) := f_X4_height_0 σ x1 x2
set_option maxRecDepth 100000 in
set_option maxHeartbeats 4000000 in
theorem c_X4_height (hst : l.stackTraces = false) (σ : Sg) (x1 : Int32) (x2 : Int32) : Ct l yX4_height (wm yX4_height cX4_height 3 (some .int)) rmX4_height 0 0 vI [.ref (ad 7 0), .int x1, .int x2] D cy n0 ad nT nO  σ (f_X4_height σ x1 x2) := by
  intro r0 h0
  refine Met.ofW (cc := cX4_height) (maxL := 3) (ret := (some .int)) (by decide +kernel) rfl ?_
  intro p e s m args below meth c s₁ B hml hv
  obtain ⟨C0, hh, hR, rfl⟩ := ent B hml hst hv
  rw [lg_entry_eq]
  have hl := lv_entry ([.ref (ad 7 0), .int x1, .int x2]) (n := 3) (Nat.le_of_ble_eq_true rfl)
  generalize (lg_sl ([.ref (ad 7 0), .int x1, .int x2]) ++ List.replicate (3 - (lg_sl ([.ref (ad 7 0), .int x1, .int x2])).length) Slot.unset).toArray = ls at hl ⊢
  exact b_X4_height_0 C0 hR σ x1 x2 _ _ _ hh hl r0 h0

def rmX4_wear : Room := { frames := 3, cells := 0, slots := 0, locals := 65 }
def f_X4_wear_0 (σ : Sg) (x1 : Int32) (x2 : Int32) : Option (Int32 × Sg) :=
  ((f_X4_isNoTooth σ x1 x2).bind (fun r1 => (if (r1.1 : Int32) = (0 : Int32) then (if (((60 * x1) + x2) : Int32) < 0 ∨ 480 ≤ (((60 * x1) + x2) : Int32).toNatClampNeg then none else (some ((r1.2.1 8 21 (((60 * x1) + x2) : Int32).toNatClampNeg), r1.2))) else (some (0, r1.2)))))
set_option maxRecDepth 100000 in
set_option maxHeartbeats 4000000 in
theorem b_X4_wear_0 (C0 : Cx p l s m args meth c cX4_wear 3 RX4 D cy n0) (hR : meth.sig.returnType = (some .int)) (σ : Sg) (x1 : Int32) (x2 : Int32) (H : Heap) (locs : List Loc) (ls : Array Slot) (hh : Hp D cy n0 ad nT nO s σ H locs) (hl : lv_has ls 3 [(0, .ref (ad 7 0)), (1, .int x1), (2, .int x2)]) : Sm (Qr below args s D cy n0 ad nT nO vI 0 0) (f_X4_wear_0 σ x1 x2) p l e rmX4_wear s m args below meth c H locs 0 0 (F0 m 0 ls []) := by
  unfold f_X4_wear_0
  refine s_aload_n C0 dX4_wear_0 rfl (lv_at hl 0 rfl) ?_
  refine s_iload_n C0 dX4_wear_1 rfl (lv_at hl 1 rfl) ?_
  refine s_iload_n C0 dX4_wear_2 rfl (lv_at hl 2 rfl) ?_
  refine s_V (As := [.int x1, .int x2]) (rest := []) C0 hh (c_X4_isNoTooth C0.2.2.2.2.2.2 _ x1 x2) (qc66 C0.1.2.2.2.2 ⟨Nat.le_of_ble_eq_true rfl, Nat.le_of_ble_eq_true rfl⟩) (rl_b (by decide)) rfl rfl rfl hl.1 rfl (lv_room (Nat.le_of_ble_eq_true rfl)) dX4_wear_3 ⟨Nat.le_of_ble_eq_true rfl, Nat.le_of_ble_eq_true rfl⟩ (fun r1 H locs hor1 hh => ?_)
  refine s_if_eq (tgt := 13) C0 dX4_wear_6 (by decide) (fun _ => ?_) (fun _ => ?_)
  · refine s_aload_n C0 dX4_wear_13 rfl (lv_at hl 0 rfl) ?_
    refine s_get (v := .ref (ad 8 21)) C0 hh (rl_b (by decide)) rfl (T := TX4) (N := 28) rfl hinX4 (by decide) w55 rfl dX4_wear_14 ?_
    refine s_bipush (v := 60) C0 dX4_wear_17 (by decide) ?_
    refine s_iload_n C0 dX4_wear_19 rfl (lv_at hl 1 rfl) ?_
    refine s_imul C0 dX4_wear_20 ?_
    refine s_iload_n C0 dX4_wear_21 rfl (lv_at hl 2 rfl) ?_
    refine s_iadd C0 dX4_wear_22 ?_
    refine s_iald (g := (r1.2.1 8 21)) C0 hh rfl (rl_b (by decide)) (fun _ => rfl) (t0 := 1) rfl dX4_wear_23 ?_
    exact s_iret C0 hh hR rfl (Nat.le_of_ble_eq_true rfl) (Nat.le_of_ble_eq_true rfl) dX4_wear_24
  · refine s_iconst (v := 0) C0 dX4_wear_9 (by decide) ?_
    refine s_goto (tgt := 24) C0 dX4_wear_10 (by decide) ?_
    exact s_iret C0 hh hR rfl (Nat.le_of_ble_eq_true rfl) (Nat.le_of_ble_eq_true rfl) dX4_wear_24
def f_X4_wear (σ : Sg) (x1 : Int32) (x2 : Int32) : Option (Int32 × Sg) := f_X4_wear_0 σ x1 x2
set_option maxRecDepth 100000 in
set_option maxHeartbeats 4000000 in
theorem c_X4_wear (hst : l.stackTraces = false) (σ : Sg) (x1 : Int32) (x2 : Int32) : Ct l yX4_wear (wm yX4_wear cX4_wear 3 (some .int)) rmX4_wear 0 0 vI [.ref (ad 7 0), .int x1, .int x2] D cy n0 ad nT nO  σ (f_X4_wear σ x1 x2) := by
  intro r0 h0
  refine Met.ofW (cc := cX4_wear) (maxL := 3) (ret := (some .int)) (by decide +kernel) rfl ?_
  intro p e s m args below meth c s₁ B hml hv
  obtain ⟨C0, hh, hR, rfl⟩ := ent B hml hst hv
  rw [lg_entry_eq]
  have hl := lv_entry ([.ref (ad 7 0), .int x1, .int x2]) (n := 3) (Nat.le_of_ble_eq_true rfl)
  generalize (lg_sl ([.ref (ad 7 0), .int x1, .int x2]) ++ List.replicate (3 - (lg_sl ([.ref (ad 7 0), .int x1, .int x2])).length) Slot.unset).toArray = ls at hl ⊢
  exact b_X4_wear_0 C0 hR σ x1 x2 _ _ _ hh hl r0 h0

def rmX4_sings : Room := { frames := 2, cells := 0, slots := 0, locals := 43 }
def f_X4_sings_0 (σ : Sg) (x1 : Int32) : Option (Int32 × Sg) :=
  ((f_X4_isNone σ x1).bind (fun r1 => (if (r1.1 : Int32) = (0 : Int32) then ((f_X4_doesSing r1.2 x1).bind (fun r2 => (if (r2.1 : Int32) = (0 : Int32) then (some (0, r2.2)) else (some (1, r2.2))))) else (some (0, r1.2)))))
set_option maxRecDepth 100000 in
set_option maxHeartbeats 4000000 in
theorem b_X4_sings_0 (C0 : Cx p l s m args meth c cX4_sings 2 RX4 D cy n0) (hR : meth.sig.returnType = (some .boolean)) (σ : Sg) (x1 : Int32) (H : Heap) (locs : List Loc) (ls : Array Slot) (hh : Hp D cy n0 ad nT nO s σ H locs) (hl : lv_has ls 2 [(0, .ref (ad 7 0)), (1, .int x1)]) : Sm (Qr below args s D cy n0 ad nT nO vI 0 0) (f_X4_sings_0 σ x1) p l e rmX4_sings s m args below meth c H locs 0 0 (F0 m 0 ls []) := by
  unfold f_X4_sings_0
  refine s_aload_n C0 dX4_sings_0 rfl (lv_at hl 0 rfl) ?_
  refine s_iload_n C0 dX4_sings_1 rfl (lv_at hl 1 rfl) ?_
  refine s_V (As := [.int x1]) (rest := []) C0 hh (c_X4_isNone C0.2.2.2.2.2.2 _ x1) (qc56 C0.1.2.2.2.2 ⟨Nat.le_of_ble_eq_true rfl, Nat.le_of_ble_eq_true rfl⟩) (rl_b (by decide)) rfl rfl rfl hl.1 rfl (lv_room (Nat.le_of_ble_eq_true rfl)) dX4_sings_2 ⟨Nat.le_of_ble_eq_true rfl, Nat.le_of_ble_eq_true rfl⟩ (fun r1 H locs hor1 hh => ?_)
  refine s_if_ne (tgt := 20) C0 dX4_sings_5 (by decide) (fun _ => ?_) (fun _ => ?_)
  · refine s_iconst (v := 0) C0 dX4_sings_20 (by decide) ?_
    exact s_iret C0 hh hR narrow_b0 (Nat.le_of_ble_eq_true rfl) (Nat.le_of_ble_eq_true rfl) dX4_sings_21
  · refine s_aload_n C0 dX4_sings_8 rfl (lv_at hl 0 rfl) ?_
    refine s_iload_n C0 dX4_sings_9 rfl (lv_at hl 1 rfl) ?_
    refine s_V (As := [.int x1]) (rest := []) C0 hh (c_X4_doesSing C0.2.2.2.2.2.2 _ x1) (qc59 C0.1.2.2.2.2 ⟨Nat.le_of_ble_eq_true rfl, Nat.le_of_ble_eq_true rfl⟩) (rl_b (by decide)) rfl rfl rfl hl.1 rfl (lv_room (Nat.le_of_ble_eq_true rfl)) dX4_sings_10 ⟨Nat.le_of_ble_eq_true rfl, Nat.le_of_ble_eq_true rfl⟩ (fun r2 H locs hor2 hh => ?_)
    refine s_if_eq (tgt := 20) C0 dX4_sings_13 (by decide) (fun _ => ?_) (fun _ => ?_)
    · refine s_iconst (v := 0) C0 dX4_sings_20 (by decide) ?_
      exact s_iret C0 hh hR narrow_b0 (Nat.le_of_ble_eq_true rfl) (Nat.le_of_ble_eq_true rfl) dX4_sings_21
    · refine s_iconst (v := 1) C0 dX4_sings_16 (by decide) ?_
      refine s_goto (tgt := 21) C0 dX4_sings_17 (by decide) ?_
      exact s_iret C0 hh hR narrow_b1 (Nat.le_of_ble_eq_true rfl) (Nat.le_of_ble_eq_true rfl) dX4_sings_21
def f_X4_sings (σ : Sg) (x1 : Int32) : Option (Int32 × Sg) := f_X4_sings_0 σ x1
set_option maxRecDepth 100000 in
set_option maxHeartbeats 4000000 in
theorem c_X4_sings (hst : l.stackTraces = false) (σ : Sg) (x1 : Int32) : Ct l yX4_sings (wm yX4_sings cX4_sings 2 (some .boolean)) rmX4_sings 0 0 vI [.ref (ad 7 0), .int x1] D cy n0 ad nT nO  σ (f_X4_sings σ x1) := by
  intro r0 h0
  refine Met.ofW (cc := cX4_sings) (maxL := 2) (ret := (some .boolean)) (by decide +kernel) rfl ?_
  intro p e s m args below meth c s₁ B hml hv
  obtain ⟨C0, hh, hR, rfl⟩ := ent B hml hst hv
  rw [lg_entry_eq]
  have hl := lv_entry ([.ref (ad 7 0), .int x1]) (n := 2) (Nat.le_of_ble_eq_true rfl)
  generalize (lg_sl ([.ref (ad 7 0), .int x1]) ++ List.replicate (2 - (lg_sl ([.ref (ad 7 0), .int x1])).length) Slot.unset).toArray = ls at hl ⊢
  exact b_X4_sings_0 C0 hR σ x1 _ _ _ hh hl r0 h0

def rmX4_set : Room := { frames := 2, cells := 0, slots := 0, locals := 43 }
def f_X4_set_61 (σ : Sg) (x1 : Int32) (x2 : Int32) (s0 : Int32) : Option (Int32 × Sg) :=
  ((f_X4_isWrong σ s0).bind (fun r3 => (if (r3.1 : Int32) = (0 : Int32) then (if (x1 : Int32) < 0 ∨ 8 ≤ (x1 : Int32).toNatClampNeg then none else (if (x1 : Int32) < 0 ∨ 8 ≤ (x1 : Int32).toNatClampNeg then none else (if (x1 : Int32) < 0 ∨ 8 ≤ (x1 : Int32).toNatClampNeg then none else (some ((r3.2.1 8 9 (x1 : Int32).toNatClampNeg), (sv (sv r3.2 8 9 (x1 : Int32).toNatClampNeg x2) 8 18 (x1 : Int32).toNatClampNeg (vp_nar .boolean 0))))))) else (some (0, r3.2)))))
set_option maxRecDepth 100000 in
set_option maxHeartbeats 4000000 in
theorem b_X4_set_61 (C0 : Cx p l s m args meth c cX4_set 4 RX4 D cy n0) (hR : meth.sig.returnType = (some .int)) (σ : Sg) (x1 : Int32) (x2 : Int32) (s0 : Int32) (H : Heap) (locs : List Loc) (ls : Array Slot) (hh : Hp D cy n0 ad nT nO s σ H locs) (hl : lv_has ls 4 [(0, .ref (ad 7 0)), (1, .int x1), (2, .int x2)]) : Sm (Qr below args s D cy n0 ad nT nO vI 0 0) (f_X4_set_61 σ x1 x2 s0) p l e rmX4_set s m args below meth c H locs 0 0 (F0 m 61 ls [.int s0, .ref (ad 7 0)]) := by
  unfold f_X4_set_61
  refine s_V (As := [.int s0]) (rest := []) C0 hh (c_X4_isWrong C0.2.2.2.2.2.2 _ s0) (qc51 C0.1.2.2.2.2 ⟨Nat.le_of_ble_eq_true rfl, Nat.le_of_ble_eq_true rfl⟩) (rl_b (by decide)) rfl rfl rfl hl.1 rfl (lv_room (Nat.le_of_ble_eq_true rfl)) dX4_set_61 ⟨Nat.le_of_ble_eq_true rfl, Nat.le_of_ble_eq_true rfl⟩ (fun r3 H locs hor3 hh => ?_)
  refine s_if_eq (tgt := 69) C0 dX4_set_64 (by decide) (fun _ => ?_) (fun _ => ?_)
  · refine s_aload_n C0 dX4_set_69 rfl (lv_at hl 0 rfl) ?_
    refine s_get (v := .ref (ad 8 9)) C0 hh (rl_b (by decide)) rfl (T := TX4) (N := 28) rfl hinX4 (by decide) w42 rfl dX4_set_70 ?_
    refine s_iload_n C0 dX4_set_73 rfl (lv_at hl 1 rfl) ?_
    refine s_iald (g := (r3.2.1 8 9)) C0 hh rfl (rl_b (by decide)) (fun _ => rfl) (t0 := 1) rfl dX4_set_74 ?_
    refine s_istore_n (lv' := [(3, .int (r3.2.1 8 9 (x1 : Int32).toNatClampNeg)), (0, .ref (ad 7 0)), (1, .int x1), (2, .int x2)]) C0 dX4_set_75 rfl hl (by decide) rfl (fun ls hl => ?_)
    refine s_aload_n C0 dX4_set_76 rfl (lv_at hl 1 rfl) ?_
    refine s_get (v := .ref (ad 8 9)) C0 hh (rl_b (by decide)) rfl (T := TX4) (N := 28) rfl hinX4 (by decide) w42 rfl dX4_set_77 ?_
    refine s_iload_n C0 dX4_set_80 rfl (lv_at hl 2 rfl) ?_
    refine s_iload_n C0 dX4_set_81 rfl (lv_at hl 3 rfl) ?_
    refine s_iast C0 hh (rl_b (by decide)) (fun _ => rfl) (t0 := 1) rfl (by decide) (by decide) (by decide) dX4_set_82 (fun H locs hh => ?_)
    refine s_aload_n C0 dX4_set_83 rfl (lv_at hl 1 rfl) ?_
    refine s_get (v := .ref (ad 8 18)) C0 hh (rl_b (by decide)) rfl (T := TX4) (N := 28) rfl hinX4 (by decide) w52 rfl dX4_set_84 ?_
    refine s_iload_n C0 dX4_set_87 rfl (lv_at hl 2 rfl) ?_
    refine s_iconst (v := 0) C0 dX4_set_88 (by decide) ?_
    refine s_zast C0 hh (rl_b (by decide)) (fun _ => rfl) (t0 := 2) rfl (by decide) (by decide) (by decide) dX4_set_89 (fun H locs hh => ?_)
    refine s_iload_n C0 dX4_set_90 rfl (lv_at hl 0 rfl) ?_
    exact s_iret C0 hh hR rfl (Nat.le_of_ble_eq_true rfl) (Nat.le_of_ble_eq_true rfl) dX4_set_91
  · refine s_iconst (v := 0) C0 dX4_set_67 (by decide) ?_
    exact s_iret C0 hh hR rfl (Nat.le_of_ble_eq_true rfl) (Nat.le_of_ble_eq_true rfl) dX4_set_68
def f_X4_set_56 (σ : Sg) (x1 : Int32) (x2 : Int32) : Option (Int32 × Sg) :=
  (f_X4_set_61 σ x1 x2 3)
set_option maxRecDepth 100000 in
set_option maxHeartbeats 4000000 in
theorem b_X4_set_56 (C0 : Cx p l s m args meth c cX4_set 4 RX4 D cy n0) (hR : meth.sig.returnType = (some .int)) (σ : Sg) (x1 : Int32) (x2 : Int32) (H : Heap) (locs : List Loc) (ls : Array Slot) (hh : Hp D cy n0 ad nT nO s σ H locs) (hl : lv_has ls 4 [(0, .ref (ad 7 0)), (1, .int x1), (2, .int x2)]) : Sm (Qr below args s D cy n0 ad nT nO vI 0 0) (f_X4_set_56 σ x1 x2) p l e rmX4_set s m args below meth c H locs 0 0 (F0 m 56 ls [.ref (ad 7 0)]) := by
  unfold f_X4_set_56
  refine s_iconst (v := 3) C0 dX4_set_56 (by decide) ?_
  refine s_goto (tgt := 61) C0 dX4_set_57 (by decide) ?_
  exact b_X4_set_61 C0 hR σ x1 x2 3 _ _ _ hh (lv_sub hl [0, 1, 2] rfl)
def f_X4_set_0 (σ : Sg) (x1 : Int32) (x2 : Int32) : Option (Int32 × Sg) :=
  ((f_X4_isNone σ x1).bind (fun r1 => (if (r1.1 : Int32) = (0 : Int32) then ((f_X4_isBetween r1.2 x2 0 9).bind (fun r2 => (if (r2.1 : Int32) = (0 : Int32) then (f_X4_set_61 r2.2 x1 x2 2) else (if (x1 : Int32) < 0 ∨ 8 ≤ (x1 : Int32).toNatClampNeg then none else (if ((r2.2.1 8 2 (x1 : Int32).toNatClampNeg) : Int32) = (115 : Int32) then (if (x1 : Int32) < 0 ∨ 8 ≤ (x1 : Int32).toNatClampNeg then none else (if ((r2.2.1 8 16 (x1 : Int32).toNatClampNeg) : Int32) = (0 : Int32) then (f_X4_set_56 r2.2 x1 x2) else (if (x1 : Int32) < 0 ∨ 8 ≤ (x1 : Int32).toNatClampNeg then none else (if ((r2.2.1 8 4 (x1 : Int32).toNatClampNeg) : Int32) = (99 : Int32) then (f_X4_set_56 r2.2 x1 x2) else (f_X4_set_61 r2.2 x1 x2 0))))) else (f_X4_set_56 r2.2 x1 x2)))))) else (some (0, r1.2)))))
set_option maxRecDepth 100000 in
set_option maxHeartbeats 4000000 in
theorem b_X4_set_0 (C0 : Cx p l s m args meth c cX4_set 4 RX4 D cy n0) (hR : meth.sig.returnType = (some .int)) (σ : Sg) (x1 : Int32) (x2 : Int32) (H : Heap) (locs : List Loc) (ls : Array Slot) (hh : Hp D cy n0 ad nT nO s σ H locs) (hl : lv_has ls 4 [(0, .ref (ad 7 0)), (1, .int x1), (2, .int x2)]) : Sm (Qr below args s D cy n0 ad nT nO vI 0 0) (f_X4_set_0 σ x1 x2) p l e rmX4_set s m args below meth c H locs 0 0 (F0 m 0 ls []) := by
  unfold f_X4_set_0
  refine s_aload_n C0 dX4_set_0 rfl (lv_at hl 0 rfl) ?_
  refine s_iload_n C0 dX4_set_1 rfl (lv_at hl 1 rfl) ?_
  refine s_V (As := [.int x1]) (rest := []) C0 hh (c_X4_isNone C0.2.2.2.2.2.2 _ x1) (qc56 C0.1.2.2.2.2 ⟨Nat.le_of_ble_eq_true rfl, Nat.le_of_ble_eq_true rfl⟩) (rl_b (by decide)) rfl rfl rfl hl.1 rfl (lv_room (Nat.le_of_ble_eq_true rfl)) dX4_set_2 ⟨Nat.le_of_ble_eq_true rfl, Nat.le_of_ble_eq_true rfl⟩ (fun r1 H locs hor1 hh => ?_)
  refine s_if_eq (tgt := 10) C0 dX4_set_5 (by decide) (fun _ => ?_) (fun _ => ?_)
  · refine s_aload_n C0 dX4_set_10 rfl (lv_at hl 0 rfl) ?_
    refine s_iload_n C0 dX4_set_11 rfl (lv_at hl 2 rfl) ?_
    refine s_iconst (v := 0) C0 dX4_set_12 (by decide) ?_
    refine s_bipush (v := 9) C0 dX4_set_13 (by decide) ?_
    refine s_S (As := [.int x2, .int 0, .int 9]) (rest := [.ref (ad 7 0)]) C0 hh (c_X4_isBetween C0.2.2.2.2.2.2 _ x2 0 9) (qc50 C0.1.2.2.2.2 ⟨Nat.le_of_ble_eq_true rfl, Nat.le_of_ble_eq_true rfl⟩) rfl hl.1 rfl (lv_room (Nat.le_of_ble_eq_true rfl)) dX4_set_15 ⟨Nat.le_of_ble_eq_true rfl, Nat.le_of_ble_eq_true rfl⟩ (fun r2 H locs hor2 hh => ?_)
    refine s_if_ne (tgt := 25) C0 dX4_set_18 (by decide) (fun _ => ?_) (fun _ => ?_)
    · refine s_aload_n C0 dX4_set_25 rfl (lv_at hl 0 rfl) ?_
      refine s_get (v := .ref (ad 8 2)) C0 hh (rl_b (by decide)) rfl (T := TX4) (N := 28) rfl hinX4 (by decide) w35 rfl dX4_set_26 ?_
      refine s_iload_n C0 dX4_set_29 rfl (lv_at hl 1 rfl) ?_
      refine s_cald (g := (r2.2.1 8 2)) C0 hh rfl (rl_b (by decide)) (fun _ => rfl) (t0 := 0) rfl dX4_set_30 ?_
      refine s_bipush (v := 115) C0 dX4_set_31 (by decide) ?_
      refine s_icmp_ne (tgt := 56) C0 dX4_set_33 (by decide) (fun _ => ?_) (fun _ => ?_)
      · exact b_X4_set_56 C0 hR r2.2 x1 x2 _ _ _ hh (lv_sub hl [0, 1, 2] rfl)
      · refine s_aload_n C0 dX4_set_36 rfl (lv_at hl 0 rfl) ?_
        refine s_get (v := .ref (ad 8 16)) C0 hh (rl_b (by decide)) rfl (T := TX4) (N := 28) rfl hinX4 (by decide) w49 rfl dX4_set_37 ?_
        refine s_iload_n C0 dX4_set_40 rfl (lv_at hl 1 rfl) ?_
        refine s_iald (g := (r2.2.1 8 16)) C0 hh rfl (rl_b (by decide)) (fun _ => rfl) (t0 := 1) rfl dX4_set_41 ?_
        refine s_if_eq (tgt := 56) C0 dX4_set_42 (by decide) (fun _ => ?_) (fun _ => ?_)
        · exact b_X4_set_56 C0 hR r2.2 x1 x2 _ _ _ hh (lv_sub hl [0, 1, 2] rfl)
        · refine s_aload_n C0 dX4_set_45 rfl (lv_at hl 0 rfl) ?_
          refine s_get (v := .ref (ad 8 4)) C0 hh (rl_b (by decide)) rfl (T := TX4) (N := 28) rfl hinX4 (by decide) w37 rfl dX4_set_46 ?_
          refine s_iload_n C0 dX4_set_49 rfl (lv_at hl 1 rfl) ?_
          refine s_cald (g := (r2.2.1 8 4)) C0 hh rfl (rl_b (by decide)) (fun _ => rfl) (t0 := 0) rfl dX4_set_50 ?_
          refine s_bipush (v := 99) C0 dX4_set_51 (by decide) ?_
          refine s_icmp_ne (tgt := 60) C0 dX4_set_53 (by decide) (fun _ => ?_) (fun _ => ?_)
          · refine s_iconst (v := 0) C0 dX4_set_60 (by decide) ?_
            exact b_X4_set_61 C0 hR r2.2 x1 x2 0 _ _ _ hh (lv_sub hl [0, 1, 2] rfl)
          · exact b_X4_set_56 C0 hR r2.2 x1 x2 _ _ _ hh (lv_sub hl [0, 1, 2] rfl)
    · refine s_iconst (v := 2) C0 dX4_set_21 (by decide) ?_
      refine s_goto (tgt := 61) C0 dX4_set_22 (by decide) ?_
      exact b_X4_set_61 C0 hR r2.2 x1 x2 2 _ _ _ hh (lv_sub hl [0, 1, 2] rfl)
  · refine s_iconst (v := 0) C0 dX4_set_8 (by decide) ?_
    exact s_iret C0 hh hR rfl (Nat.le_of_ble_eq_true rfl) (Nat.le_of_ble_eq_true rfl) dX4_set_9
def f_X4_set (σ : Sg) (x1 : Int32) (x2 : Int32) : Option (Int32 × Sg) := f_X4_set_0 σ x1 x2
set_option maxRecDepth 100000 in
set_option maxHeartbeats 4000000 in
theorem c_X4_set (hst : l.stackTraces = false) (σ : Sg) (x1 : Int32) (x2 : Int32) : Ct l yX4_set (wm yX4_set cX4_set 4 (some .int)) rmX4_set 0 0 vI [.ref (ad 7 0), .int x1, .int x2] D cy n0 ad nT nO  σ (f_X4_set σ x1 x2) := by
  intro r0 h0
  refine Met.ofW (cc := cX4_set) (maxL := 4) (ret := (some .int)) (by decide +kernel) rfl ?_
  intro p e s m args below meth c s₁ B hml hv
  obtain ⟨C0, hh, hR, rfl⟩ := ent B hml hst hv
  rw [lg_entry_eq]
  have hl := lv_entry ([.ref (ad 7 0), .int x1, .int x2]) (n := 4) (Nat.le_of_ble_eq_true rfl)
  generalize (lg_sl ([.ref (ad 7 0), .int x1, .int x2]) ++ List.replicate (4 - (lg_sl ([.ref (ad 7 0), .int x1, .int x2])).length) Slot.unset).toArray = ls at hl ⊢
  exact b_X4_set_0 C0 hR σ x1 x2 _ _ _ hh hl r0 h0

def rmX4_kerf : Room := { frames := 2, cells := 0, slots := 0, locals := 43 }
def f_X4_kerf_0 (σ : Sg) (x1 : Int32) : Option (Int32 × Sg) :=
  ((f_X4_isNone σ x1).bind (fun r1 => (if (r1.1 : Int32) = (0 : Int32) then (if (x1 : Int32) < 0 ∨ 8 ≤ (x1 : Int32).toNatClampNeg then none else (if (x1 : Int32) < 0 ∨ 8 ≤ (x1 : Int32).toNatClampNeg then none else (some (((r1.2.1 8 6 (x1 : Int32).toNatClampNeg) + (2 * (r1.2.1 8 9 (x1 : Int32).toNatClampNeg))), r1.2)))) else (some (0, r1.2)))))
set_option maxRecDepth 100000 in
set_option maxHeartbeats 4000000 in
theorem b_X4_kerf_0 (C0 : Cx p l s m args meth c cX4_kerf 2 RX4 D cy n0) (hR : meth.sig.returnType = (some .int)) (σ : Sg) (x1 : Int32) (H : Heap) (locs : List Loc) (ls : Array Slot) (hh : Hp D cy n0 ad nT nO s σ H locs) (hl : lv_has ls 2 [(0, .ref (ad 7 0)), (1, .int x1)]) : Sm (Qr below args s D cy n0 ad nT nO vI 0 0) (f_X4_kerf_0 σ x1) p l e rmX4_kerf s m args below meth c H locs 0 0 (F0 m 0 ls []) := by
  unfold f_X4_kerf_0
  refine s_aload_n C0 dX4_kerf_0 rfl (lv_at hl 0 rfl) ?_
  refine s_iload_n C0 dX4_kerf_1 rfl (lv_at hl 1 rfl) ?_
  refine s_V (As := [.int x1]) (rest := []) C0 hh (c_X4_isNone C0.2.2.2.2.2.2 _ x1) (qc56 C0.1.2.2.2.2 ⟨Nat.le_of_ble_eq_true rfl, Nat.le_of_ble_eq_true rfl⟩) (rl_b (by decide)) rfl rfl rfl hl.1 rfl (lv_room (Nat.le_of_ble_eq_true rfl)) dX4_kerf_2 ⟨Nat.le_of_ble_eq_true rfl, Nat.le_of_ble_eq_true rfl⟩ (fun r1 H locs hor1 hh => ?_)
  refine s_if_eq (tgt := 12) C0 dX4_kerf_5 (by decide) (fun _ => ?_) (fun _ => ?_)
  · refine s_aload_n C0 dX4_kerf_12 rfl (lv_at hl 0 rfl) ?_
    refine s_get (v := .ref (ad 8 6)) C0 hh (rl_b (by decide)) rfl (T := TX4) (N := 28) rfl hinX4 (by decide) w39 rfl dX4_kerf_13 ?_
    refine s_iload_n C0 dX4_kerf_16 rfl (lv_at hl 1 rfl) ?_
    refine s_iald (g := (r1.2.1 8 6)) C0 hh rfl (rl_b (by decide)) (fun _ => rfl) (t0 := 1) rfl dX4_kerf_17 ?_
    refine s_iconst (v := 2) C0 dX4_kerf_18 (by decide) ?_
    refine s_aload_n C0 dX4_kerf_19 rfl (lv_at hl 0 rfl) ?_
    refine s_get (v := .ref (ad 8 9)) C0 hh (rl_b (by decide)) rfl (T := TX4) (N := 28) rfl hinX4 (by decide) w42 rfl dX4_kerf_20 ?_
    refine s_iload_n C0 dX4_kerf_23 rfl (lv_at hl 1 rfl) ?_
    refine s_iald (g := (r1.2.1 8 9)) C0 hh rfl (rl_b (by decide)) (fun _ => rfl) (t0 := 1) rfl dX4_kerf_24 ?_
    refine s_imul C0 dX4_kerf_25 ?_
    refine s_iadd C0 dX4_kerf_26 ?_
    exact s_iret C0 hh hR rfl (Nat.le_of_ble_eq_true rfl) (Nat.le_of_ble_eq_true rfl) dX4_kerf_27
  · refine s_iconst (v := 0) C0 dX4_kerf_8 (by decide) ?_
    refine s_goto (tgt := 27) C0 dX4_kerf_9 (by decide) ?_
    exact s_iret C0 hh hR rfl (Nat.le_of_ble_eq_true rfl) (Nat.le_of_ble_eq_true rfl) dX4_kerf_27
def f_X4_kerf (σ : Sg) (x1 : Int32) : Option (Int32 × Sg) := f_X4_kerf_0 σ x1
set_option maxRecDepth 100000 in
set_option maxHeartbeats 4000000 in
theorem c_X4_kerf (hst : l.stackTraces = false) (σ : Sg) (x1 : Int32) : Ct l yX4_kerf (wm yX4_kerf cX4_kerf 2 (some .int)) rmX4_kerf 0 0 vI [.ref (ad 7 0), .int x1] D cy n0 ad nT nO  σ (f_X4_kerf σ x1) := by
  intro r0 h0
  refine Met.ofW (cc := cX4_kerf) (maxL := 2) (ret := (some .int)) (by decide +kernel) rfl ?_
  intro p e s m args below meth c s₁ B hml hv
  obtain ⟨C0, hh, hR, rfl⟩ := ent B hml hst hv
  rw [lg_entry_eq]
  have hl := lv_entry ([.ref (ad 7 0), .int x1]) (n := 2) (Nat.le_of_ble_eq_true rfl)
  generalize (lg_sl ([.ref (ad 7 0), .int x1]) ++ List.replicate (2 - (lg_sl ([.ref (ad 7 0), .int x1])).length) Slot.unset).toArray = ls at hl ⊢
  exact b_X4_kerf_0 C0 hR σ x1 _ _ _ hh hl r0 h0

def rmX4_gullets : Room := { frames := 3, cells := 0, slots := 0, locals := 63 }
def f_X4_gullets_0 (σ : Sg) (x1 : Int32) : Option (Int32 × Sg) :=
  ((f_X4_isNone σ x1).bind (fun r1 => (if (r1.1 : Int32) = (0 : Int32) then ((f_X4_holds r1.2 x1).bind (fun r2 => (some (r2.1, r2.2)))) else (some (0, r1.2)))))
set_option maxRecDepth 100000 in
set_option maxHeartbeats 4000000 in
theorem b_X4_gullets_0 (C0 : Cx p l s m args meth c cX4_gullets 2 RX4 D cy n0) (hR : meth.sig.returnType = (some .int)) (σ : Sg) (x1 : Int32) (H : Heap) (locs : List Loc) (ls : Array Slot) (hh : Hp D cy n0 ad nT nO s σ H locs) (hl : lv_has ls 2 [(0, .ref (ad 7 0)), (1, .int x1)]) : Sm (Qr below args s D cy n0 ad nT nO vI 0 0) (f_X4_gullets_0 σ x1) p l e rmX4_gullets s m args below meth c H locs 0 0 (F0 m 0 ls []) := by
  unfold f_X4_gullets_0
  refine s_aload_n C0 dX4_gullets_0 rfl (lv_at hl 0 rfl) ?_
  refine s_iload_n C0 dX4_gullets_1 rfl (lv_at hl 1 rfl) ?_
  refine s_V (As := [.int x1]) (rest := []) C0 hh (c_X4_isNone C0.2.2.2.2.2.2 _ x1) (qc56 C0.1.2.2.2.2 ⟨Nat.le_of_ble_eq_true rfl, Nat.le_of_ble_eq_true rfl⟩) (rl_b (by decide)) rfl rfl rfl hl.1 rfl (lv_room (Nat.le_of_ble_eq_true rfl)) dX4_gullets_2 ⟨Nat.le_of_ble_eq_true rfl, Nat.le_of_ble_eq_true rfl⟩ (fun r1 H locs hor1 hh => ?_)
  refine s_if_eq (tgt := 12) C0 dX4_gullets_5 (by decide) (fun _ => ?_) (fun _ => ?_)
  · refine s_aload_n C0 dX4_gullets_12 rfl (lv_at hl 0 rfl) ?_
    refine s_iload_n C0 dX4_gullets_13 rfl (lv_at hl 1 rfl) ?_
    refine s_V (As := [.int x1]) (rest := []) C0 hh (c_X4_holds C0.2.2.2.2.2.2 _ x1) (qc57 C0.1.2.2.2.2 ⟨Nat.le_of_ble_eq_true rfl, Nat.le_of_ble_eq_true rfl⟩) (rl_b (by decide)) rfl rfl rfl hl.1 rfl (lv_room (Nat.le_of_ble_eq_true rfl)) dX4_gullets_14 ⟨Nat.le_of_ble_eq_true rfl, Nat.le_of_ble_eq_true rfl⟩ (fun r2 H locs hor2 hh => ?_)
    exact s_iret C0 hh hR rfl (Nat.le_of_ble_eq_true rfl) (Nat.le_of_ble_eq_true rfl) dX4_gullets_17
  · refine s_iconst (v := 0) C0 dX4_gullets_8 (by decide) ?_
    refine s_goto (tgt := 17) C0 dX4_gullets_9 (by decide) ?_
    exact s_iret C0 hh hR rfl (Nat.le_of_ble_eq_true rfl) (Nat.le_of_ble_eq_true rfl) dX4_gullets_17
def f_X4_gullets (σ : Sg) (x1 : Int32) : Option (Int32 × Sg) := f_X4_gullets_0 σ x1
set_option maxRecDepth 100000 in
set_option maxHeartbeats 4000000 in
theorem c_X4_gullets (hst : l.stackTraces = false) (σ : Sg) (x1 : Int32) : Ct l yX4_gullets (wm yX4_gullets cX4_gullets 2 (some .int)) rmX4_gullets 0 0 vI [.ref (ad 7 0), .int x1] D cy n0 ad nT nO  σ (f_X4_gullets σ x1) := by
  intro r0 h0
  refine Met.ofW (cc := cX4_gullets) (maxL := 2) (ret := (some .int)) (by decide +kernel) rfl ?_
  intro p e s m args below meth c s₁ B hml hv
  obtain ⟨C0, hh, hR, rfl⟩ := ent B hml hst hv
  rw [lg_entry_eq]
  have hl := lv_entry ([.ref (ad 7 0), .int x1]) (n := 2) (Nat.le_of_ble_eq_true rfl)
  generalize (lg_sl ([.ref (ad 7 0), .int x1]) ++ List.replicate (2 - (lg_sl ([.ref (ad 7 0), .int x1])).length) Slot.unset).toArray = ls at hl ⊢
  exact b_X4_gullets_0 C0 hR σ x1 _ _ _ hh hl r0 h0

def rmX4_thickness : Room := { frames := 2, cells := 0, slots := 0, locals := 43 }
def f_X4_thickness_0 (σ : Sg) (x1 : Int32) : Option (Int32 × Sg) :=
  ((f_X4_isNone σ x1).bind (fun r1 => (if (r1.1 : Int32) = (0 : Int32) then (if (x1 : Int32) < 0 ∨ 8 ≤ (x1 : Int32).toNatClampNeg then none else (some ((r1.2.1 8 6 (x1 : Int32).toNatClampNeg), r1.2))) else (some (0, r1.2)))))
set_option maxRecDepth 100000 in
set_option maxHeartbeats 4000000 in
theorem b_X4_thickness_0 (C0 : Cx p l s m args meth c cX4_thickness 2 RX4 D cy n0) (hR : meth.sig.returnType = (some .int)) (σ : Sg) (x1 : Int32) (H : Heap) (locs : List Loc) (ls : Array Slot) (hh : Hp D cy n0 ad nT nO s σ H locs) (hl : lv_has ls 2 [(0, .ref (ad 7 0)), (1, .int x1)]) : Sm (Qr below args s D cy n0 ad nT nO vI 0 0) (f_X4_thickness_0 σ x1) p l e rmX4_thickness s m args below meth c H locs 0 0 (F0 m 0 ls []) := by
  unfold f_X4_thickness_0
  refine s_aload_n C0 dX4_thickness_0 rfl (lv_at hl 0 rfl) ?_
  refine s_iload_n C0 dX4_thickness_1 rfl (lv_at hl 1 rfl) ?_
  refine s_V (As := [.int x1]) (rest := []) C0 hh (c_X4_isNone C0.2.2.2.2.2.2 _ x1) (qc56 C0.1.2.2.2.2 ⟨Nat.le_of_ble_eq_true rfl, Nat.le_of_ble_eq_true rfl⟩) (rl_b (by decide)) rfl rfl rfl hl.1 rfl (lv_room (Nat.le_of_ble_eq_true rfl)) dX4_thickness_2 ⟨Nat.le_of_ble_eq_true rfl, Nat.le_of_ble_eq_true rfl⟩ (fun r1 H locs hor1 hh => ?_)
  refine s_if_eq (tgt := 12) C0 dX4_thickness_5 (by decide) (fun _ => ?_) (fun _ => ?_)
  · refine s_aload_n C0 dX4_thickness_12 rfl (lv_at hl 0 rfl) ?_
    refine s_get (v := .ref (ad 8 6)) C0 hh (rl_b (by decide)) rfl (T := TX4) (N := 28) rfl hinX4 (by decide) w39 rfl dX4_thickness_13 ?_
    refine s_iload_n C0 dX4_thickness_16 rfl (lv_at hl 1 rfl) ?_
    refine s_iald (g := (r1.2.1 8 6)) C0 hh rfl (rl_b (by decide)) (fun _ => rfl) (t0 := 1) rfl dX4_thickness_17 ?_
    exact s_iret C0 hh hR rfl (Nat.le_of_ble_eq_true rfl) (Nat.le_of_ble_eq_true rfl) dX4_thickness_18
  · refine s_iconst (v := 0) C0 dX4_thickness_8 (by decide) ?_
    refine s_goto (tgt := 18) C0 dX4_thickness_9 (by decide) ?_
    exact s_iret C0 hh hR rfl (Nat.le_of_ble_eq_true rfl) (Nat.le_of_ble_eq_true rfl) dX4_thickness_18
def f_X4_thickness (σ : Sg) (x1 : Int32) : Option (Int32 × Sg) := f_X4_thickness_0 σ x1
set_option maxRecDepth 100000 in
set_option maxHeartbeats 4000000 in
theorem c_X4_thickness (hst : l.stackTraces = false) (σ : Sg) (x1 : Int32) : Ct l yX4_thickness (wm yX4_thickness cX4_thickness 2 (some .int)) rmX4_thickness 0 0 vI [.ref (ad 7 0), .int x1] D cy n0 ad nT nO  σ (f_X4_thickness σ x1) := by
  intro r0 h0
  refine Met.ofW (cc := cX4_thickness) (maxL := 2) (ret := (some .int)) (by decide +kernel) rfl ?_
  intro p e s m args below meth c s₁ B hml hv
  obtain ⟨C0, hh, hR, rfl⟩ := ent B hml hst hv
  rw [lg_entry_eq]
  have hl := lv_entry ([.ref (ad 7 0), .int x1]) (n := 2) (Nat.le_of_ble_eq_true rfl)
  generalize (lg_sl ([.ref (ad 7 0), .int x1]) ++ List.replicate (2 - (lg_sl ([.ref (ad 7 0), .int x1])).length) Slot.unset).toArray = ls at hl ⊢
  exact b_X4_thickness_0 C0 hR σ x1 _ _ _ hh hl r0 h0

def rmX4_state : Room := { frames := 2, cells := 0, slots := 0, locals := 43 }
def f_X4_state_0 (σ : Sg) (x1 : Int32) : Option (Int32 × Sg) :=
  ((f_X4_isNone σ x1).bind (fun r1 => (if (r1.1 : Int32) = (0 : Int32) then (if (x1 : Int32) < 0 ∨ 8 ≤ (x1 : Int32).toNatClampNeg then none else (if (((r1.2.1 8 4 (x1 : Int32).toNatClampNeg)).toUInt32 % 65536).toInt32 = (r1.2.1 8 4 (x1 : Int32).toNatClampNeg) then (some ((r1.2.1 8 4 (x1 : Int32).toNatClampNeg), r1.2)) else none)) else (some (0, r1.2)))))
set_option maxRecDepth 100000 in
set_option maxHeartbeats 4000000 in
theorem b_X4_state_0 (C0 : Cx p l s m args meth c cX4_state 2 RX4 D cy n0) (hR : meth.sig.returnType = (some .char)) (σ : Sg) (x1 : Int32) (H : Heap) (locs : List Loc) (ls : Array Slot) (hh : Hp D cy n0 ad nT nO s σ H locs) (hl : lv_has ls 2 [(0, .ref (ad 7 0)), (1, .int x1)]) : Sm (Qr below args s D cy n0 ad nT nO vI 0 0) (f_X4_state_0 σ x1) p l e rmX4_state s m args below meth c H locs 0 0 (F0 m 0 ls []) := by
  unfold f_X4_state_0
  refine s_aload_n C0 dX4_state_0 rfl (lv_at hl 0 rfl) ?_
  refine s_iload_n C0 dX4_state_1 rfl (lv_at hl 1 rfl) ?_
  refine s_V (As := [.int x1]) (rest := []) C0 hh (c_X4_isNone C0.2.2.2.2.2.2 _ x1) (qc56 C0.1.2.2.2.2 ⟨Nat.le_of_ble_eq_true rfl, Nat.le_of_ble_eq_true rfl⟩) (rl_b (by decide)) rfl rfl rfl hl.1 rfl (lv_room (Nat.le_of_ble_eq_true rfl)) dX4_state_2 ⟨Nat.le_of_ble_eq_true rfl, Nat.le_of_ble_eq_true rfl⟩ (fun r1 H locs hor1 hh => ?_)
  refine s_if_eq (tgt := 12) C0 dX4_state_5 (by decide) (fun _ => ?_) (fun _ => ?_)
  · refine s_aload_n C0 dX4_state_12 rfl (lv_at hl 0 rfl) ?_
    refine s_get (v := .ref (ad 8 4)) C0 hh (rl_b (by decide)) rfl (T := TX4) (N := 28) rfl hinX4 (by decide) w37 rfl dX4_state_13 ?_
    refine s_iload_n C0 dX4_state_16 rfl (lv_at hl 1 rfl) ?_
    refine s_cald (g := (r1.2.1 8 4)) C0 hh rfl (rl_b (by decide)) (fun _ => rfl) (t0 := 0) rfl dX4_state_17 ?_
    refine s_gd (fun hg2 => ?_)
    exact s_iret C0 hh hR (nc_of hg2) (Nat.le_of_ble_eq_true rfl) (Nat.le_of_ble_eq_true rfl) dX4_state_18
  · refine s_iconst (v := 0) C0 dX4_state_8 (by decide) ?_
    refine s_goto (tgt := 18) C0 dX4_state_9 (by decide) ?_
    exact s_iret C0 hh hR rfl (Nat.le_of_ble_eq_true rfl) (Nat.le_of_ble_eq_true rfl) dX4_state_18
def f_X4_state (σ : Sg) (x1 : Int32) : Option (Int32 × Sg) := f_X4_state_0 σ x1
set_option maxRecDepth 100000 in
set_option maxHeartbeats 4000000 in
theorem c_X4_state (hst : l.stackTraces = false) (σ : Sg) (x1 : Int32) : Ct l yX4_state (wm yX4_state cX4_state 2 (some .char)) rmX4_state 0 0 vI [.ref (ad 7 0), .int x1] D cy n0 ad nT nO  σ (f_X4_state σ x1) := by
  intro r0 h0
  refine Met.ofW (cc := cX4_state) (maxL := 2) (ret := (some .char)) (by decide +kernel) rfl ?_
  intro p e s m args below meth c s₁ B hml hv
  obtain ⟨C0, hh, hR, rfl⟩ := ent B hml hst hv
  rw [lg_entry_eq]
  have hl := lv_entry ([.ref (ad 7 0), .int x1]) (n := 2) (Nat.le_of_ble_eq_true rfl)
  generalize (lg_sl ([.ref (ad 7 0), .int x1]) ++ List.replicate (2 - (lg_sl ([.ref (ad 7 0), .int x1])).length) Slot.unset).toArray = ls at hl ⊢
  exact b_X4_state_0 C0 hR σ x1 _ _ _ hh hl r0 h0

def rmX4_harden : Room := { frames := 2, cells := 0, slots := 0, locals := 43 }
def f_X4_harden_232 (σ : Sg) (x1 : Int32) (s0 : Int32) (s1 : Int32) : Option (Int32 × Sg) :=
  (if (s1 : Int32) < 0 ∨ 8 ≤ (s1 : Int32).toNatClampNeg then none else (if (x1 : Int32) < 0 ∨ 8 ≤ (x1 : Int32).toNatClampNeg then none else (some ((σ.1 8 10 (x1 : Int32).toNatClampNeg), (sv σ 8 4 (s1 : Int32).toNatClampNeg (vp_nar .char s0))))))
set_option maxRecDepth 100000 in
set_option maxHeartbeats 4000000 in
theorem b_X4_harden_232 (C0 : Cx p l s m args meth c cX4_harden 5 RX4 D cy n0) (hR : meth.sig.returnType = (some .int)) (σ : Sg) (x1 : Int32) (s0 : Int32) (s1 : Int32) (H : Heap) (locs : List Loc) (ls : Array Slot) (hh : Hp D cy n0 ad nT nO s σ H locs) (hl : lv_has ls 5 [(0, .ref (ad 7 0)), (1, .int x1)]) : Sm (Qr below args s D cy n0 ad nT nO vI 0 0) (f_X4_harden_232 σ x1 s0 s1) p l e rmX4_harden s m args below meth c H locs 0 0 (F0 m 232 ls [.int s0, .int s1, .ref (ad 8 4)]) := by
  unfold f_X4_harden_232
  refine s_cast C0 hh (rl_b (by decide)) (fun _ => rfl) (t0 := 0) rfl (by decide) (by decide) (by decide) dX4_harden_232 (fun H locs hh => ?_)
  refine s_aload_n C0 dX4_harden_233 rfl (lv_at hl 0 rfl) ?_
  refine s_get (v := .ref (ad 8 10)) C0 hh (rl_b (by decide)) rfl (T := TX4) (N := 28) rfl hinX4 (by decide) w43 rfl dX4_harden_234 ?_
  refine s_iload_n C0 dX4_harden_237 rfl (lv_at hl 1 rfl) ?_
  refine s_iald (g := (σ.1 8 10)) C0 hh rfl (rl_b (by decide)) (fun _ => rfl) (t0 := 1) rfl dX4_harden_238 ?_
  exact s_iret C0 hh hR rfl (Nat.le_of_ble_eq_true rfl) (Nat.le_of_ble_eq_true rfl) dX4_harden_239
def f_X4_harden_93 (σ : Sg) (x1 : Int32) (x2 : Int32) (x4 : Int32) (s0 : Int32) : Option (Int32 × Sg) :=
  ((f_X4_isWrong σ s0).bind (fun r2 => (if (r2.1 : Int32) = (0 : Int32) then (if (x1 : Int32) < 0 ∨ 8 ≤ (x1 : Int32).toNatClampNeg then none else (if (900 - (r2.2.1 8 7 (x1 : Int32).toNatClampNeg)) ≤ (x2 : Int32) then (if (x1 : Int32) < 0 ∨ 8 ≤ (x1 : Int32).toNatClampNeg then none else (if (2 : Int32) = 0 then none else ((f_X4_most r2.2 0 (x2 - 900)).bind (fun r3 => (if (20 : Int32) = 0 then none else ((f_X4_least r3.2 66 ((((r2.2.1 8 7 (x1 : Int32).toNatClampNeg) / 2) + x4) - (r3.1 / 20))).bind (fun r4 => ((f_X4_most r4.2 1 r4.1).bind (fun r5 => (if (x1 : Int32) < 0 ∨ 8 ≤ (x1 : Int32).toNatClampNeg then none else (if (2147483647 : Int64) = 0 then none else (if (x1 : Int32) < 0 ∨ 8 ≤ (x1 : Int32).toNatClampNeg then none else (if (x1 : Int32) < 0 ∨ 8 ≤ (x1 : Int32).toNatClampNeg then none else (if (x1 : Int32) < 0 ∨ 8 ≤ (x1 : Int32).toNatClampNeg then none else (if ((20 * (r5.2.1 8 6 (x1 : Int32).toNatClampNeg)) : Int32) = 0 then none else (if (5 : Int32) = 0 then none else (if (x1 : Int32) < 0 ∨ 8 ≤ (x1 : Int32).toNatClampNeg then none else (if (x1 : Int32) < 0 ∨ 8 ≤ (x1 : Int32).toNatClampNeg then none else (if (((sv (sv (sv r5.2 8 10 (x1 : Int32).toNatClampNeg r5.1) 7 0 22 ((((((r5.2.1 7 0 22) : Int32).toInt64 * 48271) - (((r5.2.1 7 0 22) : Int32).toInt64 * 48271) / 2147483647 * 2147483647) : Int64).toInt32)) 8 11 (x1 : Int32).toNatClampNeg ((r5.2.1 8 11 (x1 : Int32).toNatClampNeg) + (((x4 * (r5.2.1 8 5 (x1 : Int32).toNatClampNeg)) / (20 * (r5.2.1 8 6 (x1 : Int32).toNatClampNeg))) + (((sv (sv r5.2 8 10 (x1 : Int32).toNatClampNeg r5.1) 7 0 22 ((((((r5.2.1 7 0 22) : Int32).toInt64 * 48271) - (((r5.2.1 7 0 22) : Int32).toInt64 * 48271) / 2147483647 * 2147483647) : Int64).toInt32)).1 7 0 22) - ((sv (sv r5.2 8 10 (x1 : Int32).toNatClampNeg r5.1) 7 0 22 ((((((r5.2.1 7 0 22) : Int32).toInt64 * 48271) - (((r5.2.1 7 0 22) : Int32).toInt64 * 48271) / 2147483647 * 2147483647) : Int64).toInt32)).1 7 0 22) / 5 * 5)))).1 8 11 (x1 : Int32).toNatClampNeg) : Int32) ≤ (30 : Int32) then (f_X4_harden_232 (sv (sv (sv r5.2 8 10 (x1 : Int32).toNatClampNeg r5.1) 7 0 22 ((((((r5.2.1 7 0 22) : Int32).toInt64 * 48271) - (((r5.2.1 7 0 22) : Int32).toInt64 * 48271) / 2147483647 * 2147483647) : Int64).toInt32)) 8 11 (x1 : Int32).toNatClampNeg ((r5.2.1 8 11 (x1 : Int32).toNatClampNeg) + (((x4 * (r5.2.1 8 5 (x1 : Int32).toNatClampNeg)) / (20 * (r5.2.1 8 6 (x1 : Int32).toNatClampNeg))) + (((sv (sv r5.2 8 10 (x1 : Int32).toNatClampNeg r5.1) 7 0 22 ((((((r5.2.1 7 0 22) : Int32).toInt64 * 48271) - (((r5.2.1 7 0 22) : Int32).toInt64 * 48271) / 2147483647 * 2147483647) : Int64).toInt32)).1 7 0 22) - ((sv (sv r5.2 8 10 (x1 : Int32).toNatClampNeg r5.1) 7 0 22 ((((((r5.2.1 7 0 22) : Int32).toInt64 * 48271) - (((r5.2.1 7 0 22) : Int32).toInt64 * 48271) / 2147483647 * 2147483647) : Int64).toInt32)).1 7 0 22) / 5 * 5)))) x1 104 x1) else (f_X4_harden_232 (sv (sv (sv r5.2 8 10 (x1 : Int32).toNatClampNeg r5.1) 7 0 22 ((((((r5.2.1 7 0 22) : Int32).toInt64 * 48271) - (((r5.2.1 7 0 22) : Int32).toInt64 * 48271) / 2147483647 * 2147483647) : Int64).toInt32)) 8 11 (x1 : Int32).toNatClampNeg ((r5.2.1 8 11 (x1 : Int32).toNatClampNeg) + (((x4 * (r5.2.1 8 5 (x1 : Int32).toNatClampNeg)) / (20 * (r5.2.1 8 6 (x1 : Int32).toNatClampNeg))) + (((sv (sv r5.2 8 10 (x1 : Int32).toNatClampNeg r5.1) 7 0 22 ((((((r5.2.1 7 0 22) : Int32).toInt64 * 48271) - (((r5.2.1 7 0 22) : Int32).toInt64 * 48271) / 2147483647 * 2147483647) : Int64).toInt32)).1 7 0 22) - ((sv (sv r5.2 8 10 (x1 : Int32).toNatClampNeg r5.1) 7 0 22 ((((((r5.2.1 7 0 22) : Int32).toInt64 * 48271) - (((r5.2.1 7 0 22) : Int32).toInt64 * 48271) / 2147483647 * 2147483647) : Int64).toInt32)).1 7 0 22) / 5 * 5)))) x1 99 x1)))))))))))))))))))) else (some (0, r2.2)))) else (some (0, r2.2)))))
set_option maxRecDepth 100000 in
set_option maxHeartbeats 4000000 in
theorem b_X4_harden_93 (C0 : Cx p l s m args meth c cX4_harden 5 RX4 D cy n0) (hR : meth.sig.returnType = (some .int)) (σ : Sg) (x1 : Int32) (x2 : Int32) (x4 : Int32) (s0 : Int32) (H : Heap) (locs : List Loc) (ls : Array Slot) (hh : Hp D cy n0 ad nT nO s σ H locs) (hl : lv_has ls 5 [(0, .ref (ad 7 0)), (1, .int x1), (2, .int x2), (4, .int x4)]) : Sm (Qr below args s D cy n0 ad nT nO vI 0 0) (f_X4_harden_93 σ x1 x2 x4 s0) p l e rmX4_harden s m args below meth c H locs 0 0 (F0 m 93 ls [.int s0, .ref (ad 7 0)]) := by
  unfold f_X4_harden_93
  refine s_V (As := [.int s0]) (rest := []) C0 hh (c_X4_isWrong C0.2.2.2.2.2.2 _ s0) (qc51 C0.1.2.2.2.2 ⟨Nat.le_of_ble_eq_true rfl, Nat.le_of_ble_eq_true rfl⟩) (rl_b (by decide)) rfl rfl rfl hl.1 rfl (lv_room (Nat.le_of_ble_eq_true rfl)) dX4_harden_93 ⟨Nat.le_of_ble_eq_true rfl, Nat.le_of_ble_eq_true rfl⟩ (fun r2 H locs hor2 hh => ?_)
  refine s_if_eq (tgt := 101) C0 dX4_harden_96 (by decide) (fun _ => ?_) (fun _ => ?_)
  · refine s_iload_n C0 dX4_harden_101 rfl (lv_at hl 2 rfl) ?_
    refine s_sipush (v := 900) C0 dX4_harden_102 (by decide) ?_
    refine s_aload_n C0 dX4_harden_105 rfl (lv_at hl 0 rfl) ?_
    refine s_get (v := .ref (ad 8 7)) C0 hh (rl_b (by decide)) rfl (T := TX4) (N := 28) rfl hinX4 (by decide) w40 rfl dX4_harden_106 ?_
    refine s_iload_n C0 dX4_harden_109 rfl (lv_at hl 1 rfl) ?_
    refine s_iald (g := (r2.2.1 8 7)) C0 hh rfl (rl_b (by decide)) (fun _ => rfl) (t0 := 1) rfl dX4_harden_110 ?_
    refine s_isub C0 dX4_harden_111 ?_
    refine s_icmp_ge (tgt := 117) C0 dX4_harden_112 (by decide) (fun _ => ?_) (fun _ => ?_)
    · refine s_aload_n C0 dX4_harden_117 rfl (lv_at hl 0 rfl) ?_
      refine s_get (v := .ref (ad 8 10)) C0 hh (rl_b (by decide)) rfl (T := TX4) (N := 28) rfl hinX4 (by decide) w43 rfl dX4_harden_118 ?_
      refine s_iload_n C0 dX4_harden_121 rfl (lv_at hl 1 rfl) ?_
      refine s_iconst (v := 1) C0 dX4_harden_122 (by decide) ?_
      refine s_bipush (v := 66) C0 dX4_harden_123 (by decide) ?_
      refine s_aload_n C0 dX4_harden_125 rfl (lv_at hl 0 rfl) ?_
      refine s_get (v := .ref (ad 8 7)) C0 hh (rl_b (by decide)) rfl (T := TX4) (N := 28) rfl hinX4 (by decide) w40 rfl dX4_harden_126 ?_
      refine s_iload_n C0 dX4_harden_129 rfl (lv_at hl 1 rfl) ?_
      refine s_iald (g := (r2.2.1 8 7)) C0 hh rfl (rl_b (by decide)) (fun _ => rfl) (t0 := 1) rfl dX4_harden_130 ?_
      refine s_iconst (v := 2) C0 dX4_harden_131 (by decide) ?_
      refine s_idiv C0 dX4_harden_132 ?_
      refine s_iload C0 dX4_harden_133 (lv_at hl 3 rfl) ?_
      refine s_iadd C0 dX4_harden_135 ?_
      refine s_iconst (v := 0) C0 dX4_harden_136 (by decide) ?_
      refine s_iload_n C0 dX4_harden_137 rfl (lv_at hl 2 rfl) ?_
      refine s_sipush (v := 900) C0 dX4_harden_138 (by decide) ?_
      refine s_isub C0 dX4_harden_141 ?_
      refine s_S (As := [.int 0, .int (x2 - 900)]) (rest := [.int (((r2.2.1 8 7 (x1 : Int32).toNatClampNeg) / 2) + x4), .int 66, .int 1, .int x1, .ref (ad 8 10)]) C0 hh (c_X4_most C0.2.2.2.2.2.2 _ 0 (x2 - 900)) (qc65 C0.1.2.2.2.2 ⟨Nat.le_of_ble_eq_true rfl, Nat.le_of_ble_eq_true rfl⟩) rfl hl.1 rfl (lv_room (Nat.le_of_ble_eq_true rfl)) dX4_harden_142 ⟨Nat.le_of_ble_eq_true rfl, Nat.le_of_ble_eq_true rfl⟩ (fun r3 H locs hor3 hh => ?_)
      refine s_bipush (v := 20) C0 dX4_harden_145 (by decide) ?_
      refine s_idiv C0 dX4_harden_147 ?_
      refine s_isub C0 dX4_harden_148 ?_
      refine s_S (As := [.int 66, .int ((((r2.2.1 8 7 (x1 : Int32).toNatClampNeg) / 2) + x4) - (r3.1 / 20))]) (rest := [.int 1, .int x1, .ref (ad 8 10)]) C0 hh (c_X4_least C0.2.2.2.2.2.2 _ 66 ((((r2.2.1 8 7 (x1 : Int32).toNatClampNeg) / 2) + x4) - (r3.1 / 20))) (qc58 C0.1.2.2.2.2 ⟨Nat.le_of_ble_eq_true rfl, Nat.le_of_ble_eq_true rfl⟩) rfl hl.1 rfl (lv_room (Nat.le_of_ble_eq_true rfl)) dX4_harden_149 ⟨Nat.le_of_ble_eq_true rfl, Nat.le_of_ble_eq_true rfl⟩ (fun r4 H locs hor4 hh => ?_)
      refine s_S (As := [.int 1, .int r4.1]) (rest := [.int x1, .ref (ad 8 10)]) C0 hh (c_X4_most C0.2.2.2.2.2.2 _ 1 r4.1) (qc65 C0.1.2.2.2.2 ⟨Nat.le_of_ble_eq_true rfl, Nat.le_of_ble_eq_true rfl⟩) rfl hl.1 rfl (lv_room (Nat.le_of_ble_eq_true rfl)) dX4_harden_152 ⟨Nat.le_of_ble_eq_true rfl, Nat.le_of_ble_eq_true rfl⟩ (fun r5 H locs hor5 hh => ?_)
      refine s_iast C0 hh (rl_b (by decide)) (fun _ => rfl) (t0 := 1) rfl (by decide) (by decide) (by decide) dX4_harden_155 (fun H locs hh => ?_)
      refine s_aload_n C0 dX4_harden_156 rfl (lv_at hl 0 rfl) ?_
      refine s_aload_n C0 dX4_harden_157 rfl (lv_at hl 0 rfl) ?_
      refine s_get (v := .int (r5.2.1 7 0 22)) C0 hh (rl_b (by decide)) rfl (T := TX4) (N := 28) rfl hinX4 (by decide) w56 rfl dX4_harden_158 ?_
      refine s_i2l C0 dX4_harden_161 rfl ?_
      refine s_ldc2 (v := 48271) C0 w371 dX4_harden_162 ?_
      refine s_lmul C0 dX4_harden_165 ?_
      refine s_ldc2 (v := 2147483647) C0 w372 dX4_harden_166 ?_
      refine s_lrem C0 dX4_harden_169 ?_
      refine s_l2i C0 dX4_harden_170 rfl ?_
      refine s_put C0 hh (rl_b (by decide)) rfl rfl (T := TX4) (N := 28) rfl hinX4 tyX4 tyX4_ok nmX4 (by decide) w56 rfl (ty := .int) (by decide +kernel) rfl rfl (Nat.le_of_ble_eq_true rfl) (by decide) (by decide) (by decide) dX4_harden_171 (fun H locs hh => ?_)
      refine s_aload_n C0 dX4_harden_174 rfl (lv_at hl 0 rfl) ?_
      refine s_get (v := .ref (ad 8 11)) C0 hh (rl_b (by decide)) rfl (T := TX4) (N := 28) rfl hinX4 (by decide) w44 rfl dX4_harden_175 ?_
      refine s_iload_n C0 dX4_harden_178 rfl (lv_at hl 1 rfl) ?_
      refine s_dup2 C0 dX4_harden_179 rfl rfl ?_
      refine s_iald (g := (r5.2.1 8 11)) C0 hh rfl (rl_b (by decide)) (fun _ => rfl) (t0 := 1) rfl dX4_harden_180 ?_
      refine s_iload C0 dX4_harden_181 (lv_at hl 3 rfl) ?_
      refine s_aload_n C0 dX4_harden_183 rfl (lv_at hl 0 rfl) ?_
      refine s_get (v := .ref (ad 8 5)) C0 hh (rl_b (by decide)) rfl (T := TX4) (N := 28) rfl hinX4 (by decide) w38 rfl dX4_harden_184 ?_
      refine s_iload_n C0 dX4_harden_187 rfl (lv_at hl 1 rfl) ?_
      refine s_iald (g := (r5.2.1 8 5)) C0 hh rfl (rl_b (by decide)) (fun _ => rfl) (t0 := 1) rfl dX4_harden_188 ?_
      refine s_imul C0 dX4_harden_189 ?_
      refine s_bipush (v := 20) C0 dX4_harden_190 (by decide) ?_
      refine s_aload_n C0 dX4_harden_192 rfl (lv_at hl 0 rfl) ?_
      refine s_get (v := .ref (ad 8 6)) C0 hh (rl_b (by decide)) rfl (T := TX4) (N := 28) rfl hinX4 (by decide) w39 rfl dX4_harden_193 ?_
      refine s_iload_n C0 dX4_harden_196 rfl (lv_at hl 1 rfl) ?_
      refine s_iald (g := (r5.2.1 8 6)) C0 hh rfl (rl_b (by decide)) (fun _ => rfl) (t0 := 1) rfl dX4_harden_197 ?_
      refine s_imul C0 dX4_harden_198 ?_
      refine s_idiv C0 dX4_harden_199 ?_
      refine s_aload_n C0 dX4_harden_200 rfl (lv_at hl 0 rfl) ?_
      refine s_get (v := .int ((sv (sv r5.2 8 10 (x1 : Int32).toNatClampNeg r5.1) 7 0 22 ((((((r5.2.1 7 0 22) : Int32).toInt64 * 48271) - (((r5.2.1 7 0 22) : Int32).toInt64 * 48271) / 2147483647 * 2147483647) : Int64).toInt32)).1 7 0 22)) C0 hh (rl_b (by decide)) rfl (T := TX4) (N := 28) rfl hinX4 (by decide) w56 rfl dX4_harden_201 ?_
      refine s_iconst (v := 5) C0 dX4_harden_204 (by decide) ?_
      refine s_irem C0 dX4_harden_205 ?_
      refine s_iadd C0 dX4_harden_206 ?_
      refine s_iadd C0 dX4_harden_207 ?_
      refine s_iast C0 hh (rl_b (by decide)) (fun _ => rfl) (t0 := 1) rfl (by decide) (by decide) (by decide) dX4_harden_208 (fun H locs hh => ?_)
      refine s_aload_n C0 dX4_harden_209 rfl (lv_at hl 0 rfl) ?_
      refine s_get (v := .ref (ad 8 4)) C0 hh (rl_b (by decide)) rfl (T := TX4) (N := 28) rfl hinX4 (by decide) w37 rfl dX4_harden_210 ?_
      refine s_iload_n C0 dX4_harden_213 rfl (lv_at hl 1 rfl) ?_
      refine s_aload_n C0 dX4_harden_214 rfl (lv_at hl 0 rfl) ?_
      refine s_get (v := .ref (ad 8 11)) C0 hh (rl_b (by decide)) rfl (T := TX4) (N := 28) rfl hinX4 (by decide) w44 rfl dX4_harden_215 ?_
      refine s_iload_n C0 dX4_harden_218 rfl (lv_at hl 1 rfl) ?_
      refine s_iald (g := ((sv (sv (sv r5.2 8 10 (x1 : Int32).toNatClampNeg r5.1) 7 0 22 ((((((r5.2.1 7 0 22) : Int32).toInt64 * 48271) - (((r5.2.1 7 0 22) : Int32).toInt64 * 48271) / 2147483647 * 2147483647) : Int64).toInt32)) 8 11 (x1 : Int32).toNatClampNeg ((r5.2.1 8 11 (x1 : Int32).toNatClampNeg) + (((x4 * (r5.2.1 8 5 (x1 : Int32).toNatClampNeg)) / (20 * (r5.2.1 8 6 (x1 : Int32).toNatClampNeg))) + (((sv (sv r5.2 8 10 (x1 : Int32).toNatClampNeg r5.1) 7 0 22 ((((((r5.2.1 7 0 22) : Int32).toInt64 * 48271) - (((r5.2.1 7 0 22) : Int32).toInt64 * 48271) / 2147483647 * 2147483647) : Int64).toInt32)).1 7 0 22) - ((sv (sv r5.2 8 10 (x1 : Int32).toNatClampNeg r5.1) 7 0 22 ((((((r5.2.1 7 0 22) : Int32).toInt64 * 48271) - (((r5.2.1 7 0 22) : Int32).toInt64 * 48271) / 2147483647 * 2147483647) : Int64).toInt32)).1 7 0 22) / 5 * 5)))).1 8 11)) C0 hh rfl (rl_b (by decide)) (fun _ => rfl) (t0 := 1) rfl dX4_harden_219 ?_
      refine s_bipush (v := 30) C0 dX4_harden_220 (by decide) ?_
      refine s_icmp_le (tgt := 230) C0 dX4_harden_222 (by decide) (fun _ => ?_) (fun _ => ?_)
      · refine s_bipush (v := 104) C0 dX4_harden_230 (by decide) ?_
        exact b_X4_harden_232 C0 hR (sv (sv (sv r5.2 8 10 (x1 : Int32).toNatClampNeg r5.1) 7 0 22 ((((((r5.2.1 7 0 22) : Int32).toInt64 * 48271) - (((r5.2.1 7 0 22) : Int32).toInt64 * 48271) / 2147483647 * 2147483647) : Int64).toInt32)) 8 11 (x1 : Int32).toNatClampNeg ((r5.2.1 8 11 (x1 : Int32).toNatClampNeg) + (((x4 * (r5.2.1 8 5 (x1 : Int32).toNatClampNeg)) / (20 * (r5.2.1 8 6 (x1 : Int32).toNatClampNeg))) + (((sv (sv r5.2 8 10 (x1 : Int32).toNatClampNeg r5.1) 7 0 22 ((((((r5.2.1 7 0 22) : Int32).toInt64 * 48271) - (((r5.2.1 7 0 22) : Int32).toInt64 * 48271) / 2147483647 * 2147483647) : Int64).toInt32)).1 7 0 22) - ((sv (sv r5.2 8 10 (x1 : Int32).toNatClampNeg r5.1) 7 0 22 ((((((r5.2.1 7 0 22) : Int32).toInt64 * 48271) - (((r5.2.1 7 0 22) : Int32).toInt64 * 48271) / 2147483647 * 2147483647) : Int64).toInt32)).1 7 0 22) / 5 * 5)))) x1 104 x1 _ _ _ hh (lv_sub hl [0, 1] rfl)
      · refine s_bipush (v := 99) C0 dX4_harden_225 (by decide) ?_
        refine s_goto (tgt := 232) C0 dX4_harden_227 (by decide) ?_
        exact b_X4_harden_232 C0 hR (sv (sv (sv r5.2 8 10 (x1 : Int32).toNatClampNeg r5.1) 7 0 22 ((((((r5.2.1 7 0 22) : Int32).toInt64 * 48271) - (((r5.2.1 7 0 22) : Int32).toInt64 * 48271) / 2147483647 * 2147483647) : Int64).toInt32)) 8 11 (x1 : Int32).toNatClampNeg ((r5.2.1 8 11 (x1 : Int32).toNatClampNeg) + (((x4 * (r5.2.1 8 5 (x1 : Int32).toNatClampNeg)) / (20 * (r5.2.1 8 6 (x1 : Int32).toNatClampNeg))) + (((sv (sv r5.2 8 10 (x1 : Int32).toNatClampNeg r5.1) 7 0 22 ((((((r5.2.1 7 0 22) : Int32).toInt64 * 48271) - (((r5.2.1 7 0 22) : Int32).toInt64 * 48271) / 2147483647 * 2147483647) : Int64).toInt32)).1 7 0 22) - ((sv (sv r5.2 8 10 (x1 : Int32).toNatClampNeg r5.1) 7 0 22 ((((((r5.2.1 7 0 22) : Int32).toInt64 * 48271) - (((r5.2.1 7 0 22) : Int32).toInt64 * 48271) / 2147483647 * 2147483647) : Int64).toInt32)).1 7 0 22) / 5 * 5)))) x1 99 x1 _ _ _ hh (lv_sub hl [0, 1] rfl)
    · refine s_iconst (v := 0) C0 dX4_harden_115 (by decide) ?_
      exact s_iret C0 hh hR rfl (Nat.le_of_ble_eq_true rfl) (Nat.le_of_ble_eq_true rfl) dX4_harden_116
  · refine s_iconst (v := 0) C0 dX4_harden_99 (by decide) ?_
    exact s_iret C0 hh hR rfl (Nat.le_of_ble_eq_true rfl) (Nat.le_of_ble_eq_true rfl) dX4_harden_100
def f_X4_harden_64 (σ : Sg) (x1 : Int32) (x2 : Int32) (x4 : Int32) : Option (Int32 × Sg) :=
  (f_X4_harden_93 σ x1 x2 x4 2)
set_option maxRecDepth 100000 in
set_option maxHeartbeats 4000000 in
theorem b_X4_harden_64 (C0 : Cx p l s m args meth c cX4_harden 5 RX4 D cy n0) (hR : meth.sig.returnType = (some .int)) (σ : Sg) (x1 : Int32) (x2 : Int32) (x4 : Int32) (H : Heap) (locs : List Loc) (ls : Array Slot) (hh : Hp D cy n0 ad nT nO s σ H locs) (hl : lv_has ls 5 [(0, .ref (ad 7 0)), (1, .int x1), (2, .int x2), (4, .int x4)]) : Sm (Qr below args s D cy n0 ad nT nO vI 0 0) (f_X4_harden_64 σ x1 x2 x4) p l e rmX4_harden s m args below meth c H locs 0 0 (F0 m 64 ls [.ref (ad 7 0)]) := by
  unfold f_X4_harden_64
  refine s_iconst (v := 2) C0 dX4_harden_64 (by decide) ?_
  refine s_goto (tgt := 93) C0 dX4_harden_65 (by decide) ?_
  exact b_X4_harden_93 C0 hR σ x1 x2 x4 2 _ _ _ hh (lv_sub hl [0, 1, 2, 3] rfl)
def f_X4_harden_88 (σ : Sg) (x1 : Int32) (x2 : Int32) (x4 : Int32) : Option (Int32 × Sg) :=
  (f_X4_harden_93 σ x1 x2 x4 3)
set_option maxRecDepth 100000 in
set_option maxHeartbeats 4000000 in
theorem b_X4_harden_88 (C0 : Cx p l s m args meth c cX4_harden 5 RX4 D cy n0) (hR : meth.sig.returnType = (some .int)) (σ : Sg) (x1 : Int32) (x2 : Int32) (x4 : Int32) (H : Heap) (locs : List Loc) (ls : Array Slot) (hh : Hp D cy n0 ad nT nO s σ H locs) (hl : lv_has ls 5 [(0, .ref (ad 7 0)), (1, .int x1), (2, .int x2), (4, .int x4)]) : Sm (Qr below args s D cy n0 ad nT nO vI 0 0) (f_X4_harden_88 σ x1 x2 x4) p l e rmX4_harden s m args below meth c H locs 0 0 (F0 m 88 ls [.ref (ad 7 0)]) := by
  unfold f_X4_harden_88
  refine s_iconst (v := 3) C0 dX4_harden_88 (by decide) ?_
  refine s_goto (tgt := 93) C0 dX4_harden_89 (by decide) ?_
  exact b_X4_harden_93 C0 hR σ x1 x2 x4 3 _ _ _ hh (lv_sub hl [0, 1, 2, 3] rfl)
def f_X4_harden_43 (σ : Sg) (x1 : Int32) (x2 : Int32) (s0 : Int32) : Option (Int32 × Sg) :=
  (if (s0 : Int32) = (0 : Int32) then (f_X4_harden_64 σ x1 x2 s0) else ((f_X4_isBetween σ x2 600 1200).bind (fun r6 => (if (r6.1 : Int32) = (0 : Int32) then (f_X4_harden_64 r6.2 x1 x2 s0) else (if (x1 : Int32) < 0 ∨ 8 ≤ (x1 : Int32).toNatClampNeg then none else (if ((r6.2.1 8 4 (x1 : Int32).toNatClampNeg) : Int32) = (115 : Int32) then (if (x1 : Int32) < 0 ∨ 8 ≤ (x1 : Int32).toNatClampNeg then none else (if ((r6.2.1 8 16 (x1 : Int32).toNatClampNeg) : Int32) = (0 : Int32) then (f_X4_harden_88 r6.2 x1 x2 s0) else (f_X4_harden_93 r6.2 x1 x2 s0 0))) else (f_X4_harden_88 r6.2 x1 x2 s0)))))))
set_option maxRecDepth 100000 in
set_option maxHeartbeats 4000000 in
theorem b_X4_harden_43 (C0 : Cx p l s m args meth c cX4_harden 5 RX4 D cy n0) (hR : meth.sig.returnType = (some .int)) (σ : Sg) (x1 : Int32) (x2 : Int32) (s0 : Int32) (H : Heap) (locs : List Loc) (ls : Array Slot) (hh : Hp D cy n0 ad nT nO s σ H locs) (hl : lv_has ls 5 [(0, .ref (ad 7 0)), (1, .int x1), (2, .int x2)]) : Sm (Qr below args s D cy n0 ad nT nO vI 0 0) (f_X4_harden_43 σ x1 x2 s0) p l e rmX4_harden s m args below meth c H locs 0 0 (F0 m 43 ls [.int s0]) := by
  unfold f_X4_harden_43
  refine s_istore (lv' := [(4, .int s0), (0, .ref (ad 7 0)), (1, .int x1), (2, .int x2)]) C0 dX4_harden_43 hl (by decide) rfl (fun ls hl => ?_)
  refine s_aload_n C0 dX4_harden_45 rfl (lv_at hl 1 rfl) ?_
  refine s_iload C0 dX4_harden_46 (lv_at hl 0 rfl) ?_
  refine s_if_eq (tgt := 64) C0 dX4_harden_48 (by decide) (fun _ => ?_) (fun _ => ?_)
  · exact b_X4_harden_64 C0 hR σ x1 x2 s0 _ _ _ hh (lv_sub hl [1, 2, 3, 0] rfl)
  · refine s_iload_n C0 dX4_harden_51 rfl (lv_at hl 3 rfl) ?_
    refine s_sipush (v := 600) C0 dX4_harden_52 (by decide) ?_
    refine s_sipush (v := 1200) C0 dX4_harden_55 (by decide) ?_
    refine s_S (As := [.int x2, .int 600, .int 1200]) (rest := [.ref (ad 7 0)]) C0 hh (c_X4_isBetween C0.2.2.2.2.2.2 _ x2 600 1200) (qc50 C0.1.2.2.2.2 ⟨Nat.le_of_ble_eq_true rfl, Nat.le_of_ble_eq_true rfl⟩) rfl hl.1 rfl (lv_room (Nat.le_of_ble_eq_true rfl)) dX4_harden_58 ⟨Nat.le_of_ble_eq_true rfl, Nat.le_of_ble_eq_true rfl⟩ (fun r6 H locs hor6 hh => ?_)
    refine s_if_ne (tgt := 68) C0 dX4_harden_61 (by decide) (fun _ => ?_) (fun _ => ?_)
    · refine s_aload_n C0 dX4_harden_68 rfl (lv_at hl 1 rfl) ?_
      refine s_get (v := .ref (ad 8 4)) C0 hh (rl_b (by decide)) rfl (T := TX4) (N := 28) rfl hinX4 (by decide) w37 rfl dX4_harden_69 ?_
      refine s_iload_n C0 dX4_harden_72 rfl (lv_at hl 2 rfl) ?_
      refine s_cald (g := (r6.2.1 8 4)) C0 hh rfl (rl_b (by decide)) (fun _ => rfl) (t0 := 0) rfl dX4_harden_73 ?_
      refine s_bipush (v := 115) C0 dX4_harden_74 (by decide) ?_
      refine s_icmp_ne (tgt := 88) C0 dX4_harden_76 (by decide) (fun _ => ?_) (fun _ => ?_)
      · exact b_X4_harden_88 C0 hR r6.2 x1 x2 s0 _ _ _ hh (lv_sub hl [1, 2, 3, 0] rfl)
      · refine s_aload_n C0 dX4_harden_79 rfl (lv_at hl 1 rfl) ?_
        refine s_get (v := .ref (ad 8 16)) C0 hh (rl_b (by decide)) rfl (T := TX4) (N := 28) rfl hinX4 (by decide) w49 rfl dX4_harden_80 ?_
        refine s_iload_n C0 dX4_harden_83 rfl (lv_at hl 2 rfl) ?_
        refine s_iald (g := (r6.2.1 8 16)) C0 hh rfl (rl_b (by decide)) (fun _ => rfl) (t0 := 1) rfl dX4_harden_84 ?_
        refine s_if_ne (tgt := 92) C0 dX4_harden_85 (by decide) (fun _ => ?_) (fun _ => ?_)
        · refine s_iconst (v := 0) C0 dX4_harden_92 (by decide) ?_
          exact b_X4_harden_93 C0 hR r6.2 x1 x2 s0 0 _ _ _ hh (lv_sub hl [1, 2, 3, 0] rfl)
        · exact b_X4_harden_88 C0 hR r6.2 x1 x2 s0 _ _ _ hh (lv_sub hl [1, 2, 3, 0] rfl)
    · exact b_X4_harden_64 C0 hR r6.2 x1 x2 s0 _ _ _ hh (lv_sub hl [1, 2, 3, 0] rfl)
def f_X4_harden_0 (σ : Sg) (x1 : Int32) (x2 : Int32) (x3 : Int32) : Option (Int32 × Sg) :=
  ((f_X4_isNone σ x1).bind (fun r1 => (if (r1.1 : Int32) = (0 : Int32) then (if (x3 : Int32) = (111 : Int32) then (f_X4_harden_43 r1.2 x1 x2 4) else (if (x3 : Int32) = (119 : Int32) then (f_X4_harden_43 r1.2 x1 x2 8) else (if (x3 : Int32) = (98 : Int32) then (f_X4_harden_43 r1.2 x1 x2 12) else (f_X4_harden_43 r1.2 x1 x2 0)))) else (some (0, r1.2)))))
set_option maxRecDepth 100000 in
set_option maxHeartbeats 4000000 in
theorem b_X4_harden_0 (C0 : Cx p l s m args meth c cX4_harden 5 RX4 D cy n0) (hR : meth.sig.returnType = (some .int)) (σ : Sg) (x1 : Int32) (x2 : Int32) (x3 : Int32) (H : Heap) (locs : List Loc) (ls : Array Slot) (hh : Hp D cy n0 ad nT nO s σ H locs) (hl : lv_has ls 5 [(0, .ref (ad 7 0)), (1, .int x1), (2, .int x2), (3, .int x3)]) : Sm (Qr below args s D cy n0 ad nT nO vI 0 0) (f_X4_harden_0 σ x1 x2 x3) p l e rmX4_harden s m args below meth c H locs 0 0 (F0 m 0 ls []) := by
  unfold f_X4_harden_0
  refine s_aload_n C0 dX4_harden_0 rfl (lv_at hl 0 rfl) ?_
  refine s_iload_n C0 dX4_harden_1 rfl (lv_at hl 1 rfl) ?_
  refine s_V (As := [.int x1]) (rest := []) C0 hh (c_X4_isNone C0.2.2.2.2.2.2 _ x1) (qc56 C0.1.2.2.2.2 ⟨Nat.le_of_ble_eq_true rfl, Nat.le_of_ble_eq_true rfl⟩) (rl_b (by decide)) rfl rfl rfl hl.1 rfl (lv_room (Nat.le_of_ble_eq_true rfl)) dX4_harden_2 ⟨Nat.le_of_ble_eq_true rfl, Nat.le_of_ble_eq_true rfl⟩ (fun r1 H locs hor1 hh => ?_)
  refine s_if_eq (tgt := 10) C0 dX4_harden_5 (by decide) (fun _ => ?_) (fun _ => ?_)
  · refine s_iload_n C0 dX4_harden_10 rfl (lv_at hl 3 rfl) ?_
    refine s_bipush (v := 111) C0 dX4_harden_11 (by decide) ?_
    refine s_icmp_ne (tgt := 20) C0 dX4_harden_13 (by decide) (fun _ => ?_) (fun _ => ?_)
    · refine s_iload_n C0 dX4_harden_20 rfl (lv_at hl 3 rfl) ?_
      refine s_bipush (v := 119) C0 dX4_harden_21 (by decide) ?_
      refine s_icmp_ne (tgt := 31) C0 dX4_harden_23 (by decide) (fun _ => ?_) (fun _ => ?_)
      · refine s_iload_n C0 dX4_harden_31 rfl (lv_at hl 3 rfl) ?_
        refine s_bipush (v := 98) C0 dX4_harden_32 (by decide) ?_
        refine s_icmp_ne (tgt := 42) C0 dX4_harden_34 (by decide) (fun _ => ?_) (fun _ => ?_)
        · refine s_iconst (v := 0) C0 dX4_harden_42 (by decide) ?_
          exact b_X4_harden_43 C0 hR r1.2 x1 x2 0 _ _ _ hh (lv_sub hl [0, 1, 2] rfl)
        · refine s_bipush (v := 12) C0 dX4_harden_37 (by decide) ?_
          refine s_goto (tgt := 43) C0 dX4_harden_39 (by decide) ?_
          exact b_X4_harden_43 C0 hR r1.2 x1 x2 12 _ _ _ hh (lv_sub hl [0, 1, 2] rfl)
      · refine s_bipush (v := 8) C0 dX4_harden_26 (by decide) ?_
        refine s_goto (tgt := 43) C0 dX4_harden_28 (by decide) ?_
        exact b_X4_harden_43 C0 hR r1.2 x1 x2 8 _ _ _ hh (lv_sub hl [0, 1, 2] rfl)
    · refine s_iconst (v := 4) C0 dX4_harden_16 (by decide) ?_
      refine s_goto (tgt := 43) C0 dX4_harden_17 (by decide) ?_
      exact b_X4_harden_43 C0 hR r1.2 x1 x2 4 _ _ _ hh (lv_sub hl [0, 1, 2] rfl)
  · refine s_iconst (v := 0) C0 dX4_harden_8 (by decide) ?_
    exact s_iret C0 hh hR rfl (Nat.le_of_ble_eq_true rfl) (Nat.le_of_ble_eq_true rfl) dX4_harden_9
def f_X4_harden (σ : Sg) (x1 : Int32) (x2 : Int32) (x3 : Int32) : Option (Int32 × Sg) := f_X4_harden_0 σ x1 x2 x3
set_option maxRecDepth 100000 in
set_option maxHeartbeats 4000000 in
theorem c_X4_harden (hst : l.stackTraces = false) (σ : Sg) (x1 : Int32) (x2 : Int32) (x3 : Int32) : Ct l yX4_harden (wm yX4_harden cX4_harden 5 (some .int)) rmX4_harden 0 0 vI [.ref (ad 7 0), .int x1, .int x2, .int x3] D cy n0 ad nT nO  σ (f_X4_harden σ x1 x2 x3) := by
  intro r0 h0
  refine Met.ofW (cc := cX4_harden) (maxL := 5) (ret := (some .int)) (by decide +kernel) rfl ?_
  intro p e s m args below meth c s₁ B hml hv
  obtain ⟨C0, hh, hR, rfl⟩ := ent B hml hst hv
  rw [lg_entry_eq]
  have hl := lv_entry ([.ref (ad 7 0), .int x1, .int x2, .int x3]) (n := 5) (Nat.le_of_ble_eq_true rfl)
  generalize (lg_sl ([.ref (ad 7 0), .int x1, .int x2, .int x3]) ++ List.replicate (5 - (lg_sl ([.ref (ad 7 0), .int x1, .int x2, .int x3])).length) Slot.unset).toArray = ls at hl ⊢
  exact b_X4_harden_0 C0 hR σ x1 x2 x3 _ _ _ hh hl r0 h0

def rmX4_hardness : Room := { frames := 2, cells := 0, slots := 0, locals := 43 }
def f_X4_hardness_0 (σ : Sg) (x1 : Int32) : Option (Int32 × Sg) :=
  ((f_X4_isNone σ x1).bind (fun r1 => (if (r1.1 : Int32) = (0 : Int32) then (if (x1 : Int32) < 0 ∨ 8 ≤ (x1 : Int32).toNatClampNeg then none else (some ((r1.2.1 8 10 (x1 : Int32).toNatClampNeg), r1.2))) else (some (0, r1.2)))))
set_option maxRecDepth 100000 in
set_option maxHeartbeats 4000000 in
theorem b_X4_hardness_0 (C0 : Cx p l s m args meth c cX4_hardness 2 RX4 D cy n0) (hR : meth.sig.returnType = (some .int)) (σ : Sg) (x1 : Int32) (H : Heap) (locs : List Loc) (ls : Array Slot) (hh : Hp D cy n0 ad nT nO s σ H locs) (hl : lv_has ls 2 [(0, .ref (ad 7 0)), (1, .int x1)]) : Sm (Qr below args s D cy n0 ad nT nO vI 0 0) (f_X4_hardness_0 σ x1) p l e rmX4_hardness s m args below meth c H locs 0 0 (F0 m 0 ls []) := by
  unfold f_X4_hardness_0
  refine s_aload_n C0 dX4_hardness_0 rfl (lv_at hl 0 rfl) ?_
  refine s_iload_n C0 dX4_hardness_1 rfl (lv_at hl 1 rfl) ?_
  refine s_V (As := [.int x1]) (rest := []) C0 hh (c_X4_isNone C0.2.2.2.2.2.2 _ x1) (qc56 C0.1.2.2.2.2 ⟨Nat.le_of_ble_eq_true rfl, Nat.le_of_ble_eq_true rfl⟩) (rl_b (by decide)) rfl rfl rfl hl.1 rfl (lv_room (Nat.le_of_ble_eq_true rfl)) dX4_hardness_2 ⟨Nat.le_of_ble_eq_true rfl, Nat.le_of_ble_eq_true rfl⟩ (fun r1 H locs hor1 hh => ?_)
  refine s_if_eq (tgt := 12) C0 dX4_hardness_5 (by decide) (fun _ => ?_) (fun _ => ?_)
  · refine s_aload_n C0 dX4_hardness_12 rfl (lv_at hl 0 rfl) ?_
    refine s_get (v := .ref (ad 8 10)) C0 hh (rl_b (by decide)) rfl (T := TX4) (N := 28) rfl hinX4 (by decide) w43 rfl dX4_hardness_13 ?_
    refine s_iload_n C0 dX4_hardness_16 rfl (lv_at hl 1 rfl) ?_
    refine s_iald (g := (r1.2.1 8 10)) C0 hh rfl (rl_b (by decide)) (fun _ => rfl) (t0 := 1) rfl dX4_hardness_17 ?_
    exact s_iret C0 hh hR rfl (Nat.le_of_ble_eq_true rfl) (Nat.le_of_ble_eq_true rfl) dX4_hardness_18
  · refine s_iconst (v := 0) C0 dX4_hardness_8 (by decide) ?_
    refine s_goto (tgt := 18) C0 dX4_hardness_9 (by decide) ?_
    exact s_iret C0 hh hR rfl (Nat.le_of_ble_eq_true rfl) (Nat.le_of_ble_eq_true rfl) dX4_hardness_18
def f_X4_hardness (σ : Sg) (x1 : Int32) : Option (Int32 × Sg) := f_X4_hardness_0 σ x1
set_option maxRecDepth 100000 in
set_option maxHeartbeats 4000000 in
theorem c_X4_hardness (hst : l.stackTraces = false) (σ : Sg) (x1 : Int32) : Ct l yX4_hardness (wm yX4_hardness cX4_hardness 2 (some .int)) rmX4_hardness 0 0 vI [.ref (ad 7 0), .int x1] D cy n0 ad nT nO  σ (f_X4_hardness σ x1) := by
  intro r0 h0
  refine Met.ofW (cc := cX4_hardness) (maxL := 2) (ret := (some .int)) (by decide +kernel) rfl ?_
  intro p e s m args below meth c s₁ B hml hv
  obtain ⟨C0, hh, hR, rfl⟩ := ent B hml hst hv
  rw [lg_entry_eq]
  have hl := lv_entry ([.ref (ad 7 0), .int x1]) (n := 2) (Nat.le_of_ble_eq_true rfl)
  generalize (lg_sl ([.ref (ad 7 0), .int x1]) ++ List.replicate (2 - (lg_sl ([.ref (ad 7 0), .int x1])).length) Slot.unset).toArray = ls at hl ⊢
  exact b_X4_hardness_0 C0 hR σ x1 _ _ _ hh hl r0 h0

def rmX4_bend : Room := { frames := 2, cells := 0, slots := 0, locals := 43 }
def f_X4_bend_0 (σ : Sg) (x1 : Int32) : Option (Int32 × Sg) :=
  ((f_X4_isNone σ x1).bind (fun r1 => (if (r1.1 : Int32) = (0 : Int32) then (if (x1 : Int32) < 0 ∨ 8 ≤ (x1 : Int32).toNatClampNeg then none else (some ((r1.2.1 8 11 (x1 : Int32).toNatClampNeg), r1.2))) else (some (0, r1.2)))))
set_option maxRecDepth 100000 in
set_option maxHeartbeats 4000000 in
theorem b_X4_bend_0 (C0 : Cx p l s m args meth c cX4_bend 2 RX4 D cy n0) (hR : meth.sig.returnType = (some .int)) (σ : Sg) (x1 : Int32) (H : Heap) (locs : List Loc) (ls : Array Slot) (hh : Hp D cy n0 ad nT nO s σ H locs) (hl : lv_has ls 2 [(0, .ref (ad 7 0)), (1, .int x1)]) : Sm (Qr below args s D cy n0 ad nT nO vI 0 0) (f_X4_bend_0 σ x1) p l e rmX4_bend s m args below meth c H locs 0 0 (F0 m 0 ls []) := by
  unfold f_X4_bend_0
  refine s_aload_n C0 dX4_bend_0 rfl (lv_at hl 0 rfl) ?_
  refine s_iload_n C0 dX4_bend_1 rfl (lv_at hl 1 rfl) ?_
  refine s_V (As := [.int x1]) (rest := []) C0 hh (c_X4_isNone C0.2.2.2.2.2.2 _ x1) (qc56 C0.1.2.2.2.2 ⟨Nat.le_of_ble_eq_true rfl, Nat.le_of_ble_eq_true rfl⟩) (rl_b (by decide)) rfl rfl rfl hl.1 rfl (lv_room (Nat.le_of_ble_eq_true rfl)) dX4_bend_2 ⟨Nat.le_of_ble_eq_true rfl, Nat.le_of_ble_eq_true rfl⟩ (fun r1 H locs hor1 hh => ?_)
  refine s_if_eq (tgt := 12) C0 dX4_bend_5 (by decide) (fun _ => ?_) (fun _ => ?_)
  · refine s_aload_n C0 dX4_bend_12 rfl (lv_at hl 0 rfl) ?_
    refine s_get (v := .ref (ad 8 11)) C0 hh (rl_b (by decide)) rfl (T := TX4) (N := 28) rfl hinX4 (by decide) w44 rfl dX4_bend_13 ?_
    refine s_iload_n C0 dX4_bend_16 rfl (lv_at hl 1 rfl) ?_
    refine s_iald (g := (r1.2.1 8 11)) C0 hh rfl (rl_b (by decide)) (fun _ => rfl) (t0 := 1) rfl dX4_bend_17 ?_
    exact s_iret C0 hh hR rfl (Nat.le_of_ble_eq_true rfl) (Nat.le_of_ble_eq_true rfl) dX4_bend_18
  · refine s_iconst (v := 0) C0 dX4_bend_8 (by decide) ?_
    refine s_goto (tgt := 18) C0 dX4_bend_9 (by decide) ?_
    exact s_iret C0 hh hR rfl (Nat.le_of_ble_eq_true rfl) (Nat.le_of_ble_eq_true rfl) dX4_bend_18
def f_X4_bend (σ : Sg) (x1 : Int32) : Option (Int32 × Sg) := f_X4_bend_0 σ x1
set_option maxRecDepth 100000 in
set_option maxHeartbeats 4000000 in
theorem c_X4_bend (hst : l.stackTraces = false) (σ : Sg) (x1 : Int32) : Ct l yX4_bend (wm yX4_bend cX4_bend 2 (some .int)) rmX4_bend 0 0 vI [.ref (ad 7 0), .int x1] D cy n0 ad nT nO  σ (f_X4_bend σ x1) := by
  intro r0 h0
  refine Met.ofW (cc := cX4_bend) (maxL := 2) (ret := (some .int)) (by decide +kernel) rfl ?_
  intro p e s m args below meth c s₁ B hml hv
  obtain ⟨C0, hh, hR, rfl⟩ := ent B hml hst hv
  rw [lg_entry_eq]
  have hl := lv_entry ([.ref (ad 7 0), .int x1]) (n := 2) (Nat.le_of_ble_eq_true rfl)
  generalize (lg_sl ([.ref (ad 7 0), .int x1]) ++ List.replicate (2 - (lg_sl ([.ref (ad 7 0), .int x1])).length) Slot.unset).toArray = ls at hl ⊢
  exact b_X4_bend_0 C0 hR σ x1 _ _ _ hh hl r0 h0

def rmX4_temper : Room := { frames := 2, cells := 0, slots := 0, locals := 43 }
def f_X4_temper_41 (σ : Sg) (x1 : Int32) (x2 : Int32) (s0 : Int32) : Option (Int32 × Sg) :=
  ((f_X4_isWrong σ s0).bind (fun r3 => (if (r3.1 : Int32) = (0 : Int32) then (if (x1 : Int32) < 0 ∨ 8 ≤ (x1 : Int32).toNatClampNeg then none else (if (25 : Int32) = 0 then none else ((f_X4_most r3.2 1 ((r3.2.1 8 10 (x1 : Int32).toNatClampNeg) - (x2 / 25))).bind (fun r4 => (if (x1 : Int32) < 0 ∨ 8 ≤ (x1 : Int32).toNatClampNeg then none else (if (x1 : Int32) < 0 ∨ 8 ≤ (x1 : Int32).toNatClampNeg then none else (if (x1 : Int32) < 0 ∨ 8 ≤ (x1 : Int32).toNatClampNeg then none else (if (x1 : Int32) < 0 ∨ 8 ≤ (x1 : Int32).toNatClampNeg then none else (some (((sv r4.2 8 10 (x1 : Int32).toNatClampNeg r4.1).1 8 10 (x1 : Int32).toNatClampNeg), (sv (sv (sv r4.2 8 10 (x1 : Int32).toNatClampNeg r4.1) 8 18 (x1 : Int32).toNatClampNeg (vp_nar .boolean 1)) 8 12 (x1 : Int32).toNatClampNeg 0))))))))))) else (some (0, r3.2)))))
set_option maxRecDepth 100000 in
set_option maxHeartbeats 4000000 in
theorem b_X4_temper_41 (C0 : Cx p l s m args meth c cX4_temper 3 RX4 D cy n0) (hR : meth.sig.returnType = (some .int)) (σ : Sg) (x1 : Int32) (x2 : Int32) (s0 : Int32) (H : Heap) (locs : List Loc) (ls : Array Slot) (hh : Hp D cy n0 ad nT nO s σ H locs) (hl : lv_has ls 3 [(0, .ref (ad 7 0)), (1, .int x1), (2, .int x2)]) : Sm (Qr below args s D cy n0 ad nT nO vI 0 0) (f_X4_temper_41 σ x1 x2 s0) p l e rmX4_temper s m args below meth c H locs 0 0 (F0 m 41 ls [.int s0, .ref (ad 7 0)]) := by
  unfold f_X4_temper_41
  refine s_V (As := [.int s0]) (rest := []) C0 hh (c_X4_isWrong C0.2.2.2.2.2.2 _ s0) (qc51 C0.1.2.2.2.2 ⟨Nat.le_of_ble_eq_true rfl, Nat.le_of_ble_eq_true rfl⟩) (rl_b (by decide)) rfl rfl rfl hl.1 rfl (lv_room (Nat.le_of_ble_eq_true rfl)) dX4_temper_41 ⟨Nat.le_of_ble_eq_true rfl, Nat.le_of_ble_eq_true rfl⟩ (fun r3 H locs hor3 hh => ?_)
  refine s_if_eq (tgt := 49) C0 dX4_temper_44 (by decide) (fun _ => ?_) (fun _ => ?_)
  · refine s_aload_n C0 dX4_temper_49 rfl (lv_at hl 0 rfl) ?_
    refine s_get (v := .ref (ad 8 10)) C0 hh (rl_b (by decide)) rfl (T := TX4) (N := 28) rfl hinX4 (by decide) w43 rfl dX4_temper_50 ?_
    refine s_iload_n C0 dX4_temper_53 rfl (lv_at hl 1 rfl) ?_
    refine s_iconst (v := 1) C0 dX4_temper_54 (by decide) ?_
    refine s_aload_n C0 dX4_temper_55 rfl (lv_at hl 0 rfl) ?_
    refine s_get (v := .ref (ad 8 10)) C0 hh (rl_b (by decide)) rfl (T := TX4) (N := 28) rfl hinX4 (by decide) w43 rfl dX4_temper_56 ?_
    refine s_iload_n C0 dX4_temper_59 rfl (lv_at hl 1 rfl) ?_
    refine s_iald (g := (r3.2.1 8 10)) C0 hh rfl (rl_b (by decide)) (fun _ => rfl) (t0 := 1) rfl dX4_temper_60 ?_
    refine s_iload_n C0 dX4_temper_61 rfl (lv_at hl 2 rfl) ?_
    refine s_bipush (v := 25) C0 dX4_temper_62 (by decide) ?_
    refine s_idiv C0 dX4_temper_64 ?_
    refine s_isub C0 dX4_temper_65 ?_
    refine s_S (As := [.int 1, .int ((r3.2.1 8 10 (x1 : Int32).toNatClampNeg) - (x2 / 25))]) (rest := [.int x1, .ref (ad 8 10)]) C0 hh (c_X4_most C0.2.2.2.2.2.2 _ 1 ((r3.2.1 8 10 (x1 : Int32).toNatClampNeg) - (x2 / 25))) (qc65 C0.1.2.2.2.2 ⟨Nat.le_of_ble_eq_true rfl, Nat.le_of_ble_eq_true rfl⟩) rfl hl.1 rfl (lv_room (Nat.le_of_ble_eq_true rfl)) dX4_temper_66 ⟨Nat.le_of_ble_eq_true rfl, Nat.le_of_ble_eq_true rfl⟩ (fun r4 H locs hor4 hh => ?_)
    refine s_iast C0 hh (rl_b (by decide)) (fun _ => rfl) (t0 := 1) rfl (by decide) (by decide) (by decide) dX4_temper_69 (fun H locs hh => ?_)
    refine s_aload_n C0 dX4_temper_70 rfl (lv_at hl 0 rfl) ?_
    refine s_get (v := .ref (ad 8 18)) C0 hh (rl_b (by decide)) rfl (T := TX4) (N := 28) rfl hinX4 (by decide) w52 rfl dX4_temper_71 ?_
    refine s_iload_n C0 dX4_temper_74 rfl (lv_at hl 1 rfl) ?_
    refine s_iconst (v := 1) C0 dX4_temper_75 (by decide) ?_
    refine s_zast C0 hh (rl_b (by decide)) (fun _ => rfl) (t0 := 2) rfl (by decide) (by decide) (by decide) dX4_temper_76 (fun H locs hh => ?_)
    refine s_aload_n C0 dX4_temper_77 rfl (lv_at hl 0 rfl) ?_
    refine s_get (v := .ref (ad 8 12)) C0 hh (rl_b (by decide)) rfl (T := TX4) (N := 28) rfl hinX4 (by decide) w45 rfl dX4_temper_78 ?_
    refine s_iload_n C0 dX4_temper_81 rfl (lv_at hl 1 rfl) ?_
    refine s_iconst (v := 0) C0 dX4_temper_82 (by decide) ?_
    refine s_iast C0 hh (rl_b (by decide)) (fun _ => rfl) (t0 := 1) rfl (by decide) (by decide) (by decide) dX4_temper_83 (fun H locs hh => ?_)
    refine s_aload_n C0 dX4_temper_84 rfl (lv_at hl 0 rfl) ?_
    refine s_get (v := .ref (ad 8 10)) C0 hh (rl_b (by decide)) rfl (T := TX4) (N := 28) rfl hinX4 (by decide) w43 rfl dX4_temper_85 ?_
    refine s_iload_n C0 dX4_temper_88 rfl (lv_at hl 1 rfl) ?_
    refine s_iald (g := ((sv r4.2 8 10 (x1 : Int32).toNatClampNeg r4.1).1 8 10)) C0 hh rfl (rl_b (by decide)) (fun _ => rfl) (t0 := 1) rfl dX4_temper_89 ?_
    exact s_iret C0 hh hR rfl (Nat.le_of_ble_eq_true rfl) (Nat.le_of_ble_eq_true rfl) dX4_temper_90
  · refine s_iconst (v := 0) C0 dX4_temper_47 (by decide) ?_
    exact s_iret C0 hh hR rfl (Nat.le_of_ble_eq_true rfl) (Nat.le_of_ble_eq_true rfl) dX4_temper_48
def f_X4_temper_0 (σ : Sg) (x1 : Int32) (x2 : Int32) : Option (Int32 × Sg) :=
  ((f_X4_isNone σ x1).bind (fun r1 => (if (r1.1 : Int32) = (0 : Int32) then ((f_X4_isBetween r1.2 x2 100 400).bind (fun r2 => (if (r2.1 : Int32) = (0 : Int32) then (f_X4_temper_41 r2.2 x1 x2 2) else (if (x1 : Int32) < 0 ∨ 8 ≤ (x1 : Int32).toNatClampNeg then none else (if ((r2.2.1 8 4 (x1 : Int32).toNatClampNeg) : Int32) = (104 : Int32) then (f_X4_temper_41 r2.2 x1 x2 0) else (f_X4_temper_41 r2.2 x1 x2 3)))))) else (some (0, r1.2)))))
set_option maxRecDepth 100000 in
set_option maxHeartbeats 4000000 in
theorem b_X4_temper_0 (C0 : Cx p l s m args meth c cX4_temper 3 RX4 D cy n0) (hR : meth.sig.returnType = (some .int)) (σ : Sg) (x1 : Int32) (x2 : Int32) (H : Heap) (locs : List Loc) (ls : Array Slot) (hh : Hp D cy n0 ad nT nO s σ H locs) (hl : lv_has ls 3 [(0, .ref (ad 7 0)), (1, .int x1), (2, .int x2)]) : Sm (Qr below args s D cy n0 ad nT nO vI 0 0) (f_X4_temper_0 σ x1 x2) p l e rmX4_temper s m args below meth c H locs 0 0 (F0 m 0 ls []) := by
  unfold f_X4_temper_0
  refine s_aload_n C0 dX4_temper_0 rfl (lv_at hl 0 rfl) ?_
  refine s_iload_n C0 dX4_temper_1 rfl (lv_at hl 1 rfl) ?_
  refine s_V (As := [.int x1]) (rest := []) C0 hh (c_X4_isNone C0.2.2.2.2.2.2 _ x1) (qc56 C0.1.2.2.2.2 ⟨Nat.le_of_ble_eq_true rfl, Nat.le_of_ble_eq_true rfl⟩) (rl_b (by decide)) rfl rfl rfl hl.1 rfl (lv_room (Nat.le_of_ble_eq_true rfl)) dX4_temper_2 ⟨Nat.le_of_ble_eq_true rfl, Nat.le_of_ble_eq_true rfl⟩ (fun r1 H locs hor1 hh => ?_)
  refine s_if_ne (tgt := 47) C0 dX4_temper_5 (by decide) (fun _ => ?_) (fun _ => ?_)
  · refine s_iconst (v := 0) C0 dX4_temper_47 (by decide) ?_
    exact s_iret C0 hh hR rfl (Nat.le_of_ble_eq_true rfl) (Nat.le_of_ble_eq_true rfl) dX4_temper_48
  · refine s_aload_n C0 dX4_temper_8 rfl (lv_at hl 0 rfl) ?_
    refine s_iload_n C0 dX4_temper_9 rfl (lv_at hl 2 rfl) ?_
    refine s_bipush (v := 100) C0 dX4_temper_10 (by decide) ?_
    refine s_sipush (v := 400) C0 dX4_temper_12 (by decide) ?_
    refine s_S (As := [.int x2, .int 100, .int 400]) (rest := [.ref (ad 7 0)]) C0 hh (c_X4_isBetween C0.2.2.2.2.2.2 _ x2 100 400) (qc50 C0.1.2.2.2.2 ⟨Nat.le_of_ble_eq_true rfl, Nat.le_of_ble_eq_true rfl⟩) rfl hl.1 rfl (lv_room (Nat.le_of_ble_eq_true rfl)) dX4_temper_15 ⟨Nat.le_of_ble_eq_true rfl, Nat.le_of_ble_eq_true rfl⟩ (fun r2 H locs hor2 hh => ?_)
    refine s_if_ne (tgt := 25) C0 dX4_temper_18 (by decide) (fun _ => ?_) (fun _ => ?_)
    · refine s_aload_n C0 dX4_temper_25 rfl (lv_at hl 0 rfl) ?_
      refine s_get (v := .ref (ad 8 4)) C0 hh (rl_b (by decide)) rfl (T := TX4) (N := 28) rfl hinX4 (by decide) w37 rfl dX4_temper_26 ?_
      refine s_iload_n C0 dX4_temper_29 rfl (lv_at hl 1 rfl) ?_
      refine s_cald (g := (r2.2.1 8 4)) C0 hh rfl (rl_b (by decide)) (fun _ => rfl) (t0 := 0) rfl dX4_temper_30 ?_
      refine s_bipush (v := 104) C0 dX4_temper_31 (by decide) ?_
      refine s_icmp_eq (tgt := 40) C0 dX4_temper_33 (by decide) (fun _ => ?_) (fun _ => ?_)
      · refine s_iconst (v := 0) C0 dX4_temper_40 (by decide) ?_
        exact b_X4_temper_41 C0 hR r2.2 x1 x2 0 _ _ _ hh (lv_sub hl [0, 1, 2] rfl)
      · refine s_iconst (v := 3) C0 dX4_temper_36 (by decide) ?_
        refine s_goto (tgt := 41) C0 dX4_temper_37 (by decide) ?_
        exact b_X4_temper_41 C0 hR r2.2 x1 x2 3 _ _ _ hh (lv_sub hl [0, 1, 2] rfl)
    · refine s_iconst (v := 2) C0 dX4_temper_21 (by decide) ?_
      refine s_goto (tgt := 41) C0 dX4_temper_22 (by decide) ?_
      exact b_X4_temper_41 C0 hR r2.2 x1 x2 2 _ _ _ hh (lv_sub hl [0, 1, 2] rfl)
def f_X4_temper (σ : Sg) (x1 : Int32) (x2 : Int32) : Option (Int32 × Sg) := f_X4_temper_0 σ x1 x2
set_option maxRecDepth 100000 in
set_option maxHeartbeats 4000000 in
theorem c_X4_temper (hst : l.stackTraces = false) (σ : Sg) (x1 : Int32) (x2 : Int32) : Ct l yX4_temper (wm yX4_temper cX4_temper 3 (some .int)) rmX4_temper 0 0 vI [.ref (ad 7 0), .int x1, .int x2] D cy n0 ad nT nO  σ (f_X4_temper σ x1 x2) := by
  intro r0 h0
  refine Met.ofW (cc := cX4_temper) (maxL := 3) (ret := (some .int)) (by decide +kernel) rfl ?_
  intro p e s m args below meth c s₁ B hml hv
  obtain ⟨C0, hh, hR, rfl⟩ := ent B hml hst hv
  rw [lg_entry_eq]
  have hl := lv_entry ([.ref (ad 7 0), .int x1, .int x2]) (n := 3) (Nat.le_of_ble_eq_true rfl)
  generalize (lg_sl ([.ref (ad 7 0), .int x1, .int x2]) ++ List.replicate (3 - (lg_sl ([.ref (ad 7 0), .int x1, .int x2])).length) Slot.unset).toArray = ls at hl ⊢
  exact b_X4_temper_0 C0 hR σ x1 x2 _ _ _ hh hl r0 h0

def rmX4_straighten : Room := { frames := 2, cells := 0, slots := 0, locals := 43 }
def f_X4_straighten_47 (σ : Sg) (x1 : Int32) (x2 : Int32) (s0 : Int32) : Option (Int32 × Sg) :=
  ((f_X4_isWrong σ s0).bind (fun r3 => (if (r3.1 : Int32) = (0 : Int32) then (if (x1 : Int32) < 0 ∨ 8 ≤ (x1 : Int32).toNatClampNeg then none else ((f_X4_most r3.2 0 ((r3.2.1 8 11 (x1 : Int32).toNatClampNeg) - x2)).bind (fun r4 => (if (x1 : Int32) < 0 ∨ 8 ≤ (x1 : Int32).toNatClampNeg then none else (if (x1 : Int32) < 0 ∨ 8 ≤ (x1 : Int32).toNatClampNeg then none else (if (x1 : Int32) < 0 ∨ 8 ≤ (x1 : Int32).toNatClampNeg then none else (if (x1 : Int32) < 0 ∨ 8 ≤ (x1 : Int32).toNatClampNeg then none else (some (((sv r4.2 8 11 (x1 : Int32).toNatClampNeg r4.1).1 8 11 (x1 : Int32).toNatClampNeg), (sv (sv r4.2 8 11 (x1 : Int32).toNatClampNeg r4.1) 8 12 (x1 : Int32).toNatClampNeg ((r4.2.1 8 12 (x1 : Int32).toNatClampNeg) + 1))))))))))) else (some (0, r3.2)))))
set_option maxRecDepth 100000 in
set_option maxHeartbeats 4000000 in
theorem b_X4_straighten_47 (C0 : Cx p l s m args meth c cX4_straighten 3 RX4 D cy n0) (hR : meth.sig.returnType = (some .int)) (σ : Sg) (x1 : Int32) (x2 : Int32) (s0 : Int32) (H : Heap) (locs : List Loc) (ls : Array Slot) (hh : Hp D cy n0 ad nT nO s σ H locs) (hl : lv_has ls 3 [(0, .ref (ad 7 0)), (1, .int x1), (2, .int x2)]) : Sm (Qr below args s D cy n0 ad nT nO vI 0 0) (f_X4_straighten_47 σ x1 x2 s0) p l e rmX4_straighten s m args below meth c H locs 0 0 (F0 m 47 ls [.int s0, .ref (ad 7 0)]) := by
  unfold f_X4_straighten_47
  refine s_V (As := [.int s0]) (rest := []) C0 hh (c_X4_isWrong C0.2.2.2.2.2.2 _ s0) (qc51 C0.1.2.2.2.2 ⟨Nat.le_of_ble_eq_true rfl, Nat.le_of_ble_eq_true rfl⟩) (rl_b (by decide)) rfl rfl rfl hl.1 rfl (lv_room (Nat.le_of_ble_eq_true rfl)) dX4_straighten_47 ⟨Nat.le_of_ble_eq_true rfl, Nat.le_of_ble_eq_true rfl⟩ (fun r3 H locs hor3 hh => ?_)
  refine s_if_eq (tgt := 55) C0 dX4_straighten_50 (by decide) (fun _ => ?_) (fun _ => ?_)
  · refine s_aload_n C0 dX4_straighten_55 rfl (lv_at hl 0 rfl) ?_
    refine s_get (v := .ref (ad 8 11)) C0 hh (rl_b (by decide)) rfl (T := TX4) (N := 28) rfl hinX4 (by decide) w44 rfl dX4_straighten_56 ?_
    refine s_iload_n C0 dX4_straighten_59 rfl (lv_at hl 1 rfl) ?_
    refine s_iconst (v := 0) C0 dX4_straighten_60 (by decide) ?_
    refine s_aload_n C0 dX4_straighten_61 rfl (lv_at hl 0 rfl) ?_
    refine s_get (v := .ref (ad 8 11)) C0 hh (rl_b (by decide)) rfl (T := TX4) (N := 28) rfl hinX4 (by decide) w44 rfl dX4_straighten_62 ?_
    refine s_iload_n C0 dX4_straighten_65 rfl (lv_at hl 1 rfl) ?_
    refine s_iald (g := (r3.2.1 8 11)) C0 hh rfl (rl_b (by decide)) (fun _ => rfl) (t0 := 1) rfl dX4_straighten_66 ?_
    refine s_iload_n C0 dX4_straighten_67 rfl (lv_at hl 2 rfl) ?_
    refine s_isub C0 dX4_straighten_68 ?_
    refine s_S (As := [.int 0, .int ((r3.2.1 8 11 (x1 : Int32).toNatClampNeg) - x2)]) (rest := [.int x1, .ref (ad 8 11)]) C0 hh (c_X4_most C0.2.2.2.2.2.2 _ 0 ((r3.2.1 8 11 (x1 : Int32).toNatClampNeg) - x2)) (qc65 C0.1.2.2.2.2 ⟨Nat.le_of_ble_eq_true rfl, Nat.le_of_ble_eq_true rfl⟩) rfl hl.1 rfl (lv_room (Nat.le_of_ble_eq_true rfl)) dX4_straighten_69 ⟨Nat.le_of_ble_eq_true rfl, Nat.le_of_ble_eq_true rfl⟩ (fun r4 H locs hor4 hh => ?_)
    refine s_iast C0 hh (rl_b (by decide)) (fun _ => rfl) (t0 := 1) rfl (by decide) (by decide) (by decide) dX4_straighten_72 (fun H locs hh => ?_)
    refine s_aload_n C0 dX4_straighten_73 rfl (lv_at hl 0 rfl) ?_
    refine s_get (v := .ref (ad 8 12)) C0 hh (rl_b (by decide)) rfl (T := TX4) (N := 28) rfl hinX4 (by decide) w45 rfl dX4_straighten_74 ?_
    refine s_iload_n C0 dX4_straighten_77 rfl (lv_at hl 1 rfl) ?_
    refine s_dup2 C0 dX4_straighten_78 rfl rfl ?_
    refine s_iald (g := (r4.2.1 8 12)) C0 hh rfl (rl_b (by decide)) (fun _ => rfl) (t0 := 1) rfl dX4_straighten_79 ?_
    refine s_iconst (v := 1) C0 dX4_straighten_80 (by decide) ?_
    refine s_iadd C0 dX4_straighten_81 ?_
    refine s_iast C0 hh (rl_b (by decide)) (fun _ => rfl) (t0 := 1) rfl (by decide) (by decide) (by decide) dX4_straighten_82 (fun H locs hh => ?_)
    refine s_aload_n C0 dX4_straighten_83 rfl (lv_at hl 0 rfl) ?_
    refine s_get (v := .ref (ad 8 11)) C0 hh (rl_b (by decide)) rfl (T := TX4) (N := 28) rfl hinX4 (by decide) w44 rfl dX4_straighten_84 ?_
    refine s_iload_n C0 dX4_straighten_87 rfl (lv_at hl 1 rfl) ?_
    refine s_iald (g := ((sv r4.2 8 11 (x1 : Int32).toNatClampNeg r4.1).1 8 11)) C0 hh rfl (rl_b (by decide)) (fun _ => rfl) (t0 := 1) rfl dX4_straighten_88 ?_
    exact s_iret C0 hh hR rfl (Nat.le_of_ble_eq_true rfl) (Nat.le_of_ble_eq_true rfl) dX4_straighten_89
  · refine s_iconst (v := 0) C0 dX4_straighten_53 (by decide) ?_
    exact s_iret C0 hh hR rfl (Nat.le_of_ble_eq_true rfl) (Nat.le_of_ble_eq_true rfl) dX4_straighten_54
def f_X4_straighten_42 (σ : Sg) (x1 : Int32) (x2 : Int32) : Option (Int32 × Sg) :=
  (f_X4_straighten_47 σ x1 x2 3)
set_option maxRecDepth 100000 in
set_option maxHeartbeats 4000000 in
theorem b_X4_straighten_42 (C0 : Cx p l s m args meth c cX4_straighten 3 RX4 D cy n0) (hR : meth.sig.returnType = (some .int)) (σ : Sg) (x1 : Int32) (x2 : Int32) (H : Heap) (locs : List Loc) (ls : Array Slot) (hh : Hp D cy n0 ad nT nO s σ H locs) (hl : lv_has ls 3 [(0, .ref (ad 7 0)), (1, .int x1), (2, .int x2)]) : Sm (Qr below args s D cy n0 ad nT nO vI 0 0) (f_X4_straighten_42 σ x1 x2) p l e rmX4_straighten s m args below meth c H locs 0 0 (F0 m 42 ls [.ref (ad 7 0)]) := by
  unfold f_X4_straighten_42
  refine s_iconst (v := 3) C0 dX4_straighten_42 (by decide) ?_
  refine s_goto (tgt := 47) C0 dX4_straighten_43 (by decide) ?_
  exact b_X4_straighten_47 C0 hR σ x1 x2 3 _ _ _ hh (lv_sub hl [0, 1, 2] rfl)
def f_X4_straighten_0 (σ : Sg) (x1 : Int32) (x2 : Int32) : Option (Int32 × Sg) :=
  ((f_X4_isNone σ x1).bind (fun r1 => (if (r1.1 : Int32) = (0 : Int32) then ((f_X4_isBetween r1.2 x2 1 6).bind (fun r2 => (if (r2.1 : Int32) = (0 : Int32) then (f_X4_straighten_47 r2.2 x1 x2 2) else (if (x1 : Int32) < 0 ∨ 8 ≤ (x1 : Int32).toNatClampNeg then none else (if ((r2.2.1 8 18 (x1 : Int32).toNatClampNeg) : Int32) = (0 : Int32) then (f_X4_straighten_42 r2.2 x1 x2) else (if (x1 : Int32) < 0 ∨ 8 ≤ (x1 : Int32).toNatClampNeg then none else (if ((r2.2.1 8 12 (x1 : Int32).toNatClampNeg) : Int32) = (2 : Int32) then (f_X4_straighten_42 r2.2 x1 x2) else (f_X4_straighten_47 r2.2 x1 x2 0)))))))) else (some (0, r1.2)))))
set_option maxRecDepth 100000 in
set_option maxHeartbeats 4000000 in
theorem b_X4_straighten_0 (C0 : Cx p l s m args meth c cX4_straighten 3 RX4 D cy n0) (hR : meth.sig.returnType = (some .int)) (σ : Sg) (x1 : Int32) (x2 : Int32) (H : Heap) (locs : List Loc) (ls : Array Slot) (hh : Hp D cy n0 ad nT nO s σ H locs) (hl : lv_has ls 3 [(0, .ref (ad 7 0)), (1, .int x1), (2, .int x2)]) : Sm (Qr below args s D cy n0 ad nT nO vI 0 0) (f_X4_straighten_0 σ x1 x2) p l e rmX4_straighten s m args below meth c H locs 0 0 (F0 m 0 ls []) := by
  unfold f_X4_straighten_0
  refine s_aload_n C0 dX4_straighten_0 rfl (lv_at hl 0 rfl) ?_
  refine s_iload_n C0 dX4_straighten_1 rfl (lv_at hl 1 rfl) ?_
  refine s_V (As := [.int x1]) (rest := []) C0 hh (c_X4_isNone C0.2.2.2.2.2.2 _ x1) (qc56 C0.1.2.2.2.2 ⟨Nat.le_of_ble_eq_true rfl, Nat.le_of_ble_eq_true rfl⟩) (rl_b (by decide)) rfl rfl rfl hl.1 rfl (lv_room (Nat.le_of_ble_eq_true rfl)) dX4_straighten_2 ⟨Nat.le_of_ble_eq_true rfl, Nat.le_of_ble_eq_true rfl⟩ (fun r1 H locs hor1 hh => ?_)
  refine s_if_ne (tgt := 53) C0 dX4_straighten_5 (by decide) (fun _ => ?_) (fun _ => ?_)
  · refine s_iconst (v := 0) C0 dX4_straighten_53 (by decide) ?_
    exact s_iret C0 hh hR rfl (Nat.le_of_ble_eq_true rfl) (Nat.le_of_ble_eq_true rfl) dX4_straighten_54
  · refine s_aload_n C0 dX4_straighten_8 rfl (lv_at hl 0 rfl) ?_
    refine s_iload_n C0 dX4_straighten_9 rfl (lv_at hl 2 rfl) ?_
    refine s_iconst (v := 1) C0 dX4_straighten_10 (by decide) ?_
    refine s_bipush (v := 6) C0 dX4_straighten_11 (by decide) ?_
    refine s_S (As := [.int x2, .int 1, .int 6]) (rest := [.ref (ad 7 0)]) C0 hh (c_X4_isBetween C0.2.2.2.2.2.2 _ x2 1 6) (qc50 C0.1.2.2.2.2 ⟨Nat.le_of_ble_eq_true rfl, Nat.le_of_ble_eq_true rfl⟩) rfl hl.1 rfl (lv_room (Nat.le_of_ble_eq_true rfl)) dX4_straighten_13 ⟨Nat.le_of_ble_eq_true rfl, Nat.le_of_ble_eq_true rfl⟩ (fun r2 H locs hor2 hh => ?_)
    refine s_if_ne (tgt := 23) C0 dX4_straighten_16 (by decide) (fun _ => ?_) (fun _ => ?_)
    · refine s_aload_n C0 dX4_straighten_23 rfl (lv_at hl 0 rfl) ?_
      refine s_get (v := .ref (ad 8 18)) C0 hh (rl_b (by decide)) rfl (T := TX4) (N := 28) rfl hinX4 (by decide) w52 rfl dX4_straighten_24 ?_
      refine s_iload_n C0 dX4_straighten_27 rfl (lv_at hl 1 rfl) ?_
      refine s_zald (g := (r2.2.1 8 18)) C0 hh rfl (rl_b (by decide)) (fun _ => rfl) (t0 := 2) rfl dX4_straighten_28 ?_
      refine s_if_eq (tgt := 42) C0 dX4_straighten_29 (by decide) (fun _ => ?_) (fun _ => ?_)
      · exact b_X4_straighten_42 C0 hR r2.2 x1 x2 _ _ _ hh (lv_sub hl [0, 1, 2] rfl)
      · refine s_aload_n C0 dX4_straighten_32 rfl (lv_at hl 0 rfl) ?_
        refine s_get (v := .ref (ad 8 12)) C0 hh (rl_b (by decide)) rfl (T := TX4) (N := 28) rfl hinX4 (by decide) w45 rfl dX4_straighten_33 ?_
        refine s_iload_n C0 dX4_straighten_36 rfl (lv_at hl 1 rfl) ?_
        refine s_iald (g := (r2.2.1 8 12)) C0 hh rfl (rl_b (by decide)) (fun _ => rfl) (t0 := 1) rfl dX4_straighten_37 ?_
        refine s_iconst (v := 2) C0 dX4_straighten_38 (by decide) ?_
        refine s_icmp_ne (tgt := 46) C0 dX4_straighten_39 (by decide) (fun _ => ?_) (fun _ => ?_)
        · refine s_iconst (v := 0) C0 dX4_straighten_46 (by decide) ?_
          exact b_X4_straighten_47 C0 hR r2.2 x1 x2 0 _ _ _ hh (lv_sub hl [0, 1, 2] rfl)
        · exact b_X4_straighten_42 C0 hR r2.2 x1 x2 _ _ _ hh (lv_sub hl [0, 1, 2] rfl)
    · refine s_iconst (v := 2) C0 dX4_straighten_19 (by decide) ?_
      refine s_goto (tgt := 47) C0 dX4_straighten_20 (by decide) ?_
      exact b_X4_straighten_47 C0 hR r2.2 x1 x2 2 _ _ _ hh (lv_sub hl [0, 1, 2] rfl)
def f_X4_straighten (σ : Sg) (x1 : Int32) (x2 : Int32) : Option (Int32 × Sg) := f_X4_straighten_0 σ x1 x2
set_option maxRecDepth 100000 in
set_option maxHeartbeats 4000000 in
theorem c_X4_straighten (hst : l.stackTraces = false) (σ : Sg) (x1 : Int32) (x2 : Int32) : Ct l yX4_straighten (wm yX4_straighten cX4_straighten 3 (some .int)) rmX4_straighten 0 0 vI [.ref (ad 7 0), .int x1, .int x2] D cy n0 ad nT nO  σ (f_X4_straighten σ x1 x2) := by
  intro r0 h0
  refine Met.ofW (cc := cX4_straighten) (maxL := 3) (ret := (some .int)) (by decide +kernel) rfl ?_
  intro p e s m args below meth c s₁ B hml hv
  obtain ⟨C0, hh, hR, rfl⟩ := ent B hml hst hv
  rw [lg_entry_eq]
  have hl := lv_entry ([.ref (ad 7 0), .int x1, .int x2]) (n := 3) (Nat.le_of_ble_eq_true rfl)
  generalize (lg_sl ([.ref (ad 7 0), .int x1, .int x2]) ++ List.replicate (3 - (lg_sl ([.ref (ad 7 0), .int x1, .int x2])).length) Slot.unset).toArray = ls at hl ⊢
  exact b_X4_straighten_0 C0 hR σ x1 x2 _ _ _ hh hl r0 h0

def rmX4_seed : Room := { frames := 1, cells := 0, slots := 0, locals := 22 }
def f_X4_seed_16 (σ : Sg) (x1 : Int32) (s0 : Int32) : Option (Int32 × Sg) :=
  ((f_X4_isWrong σ s0).bind (fun r2 => (if (r2.1 : Int32) = (0 : Int32) then (some ((r2.2.1 7 0 22), (sv r2.2 7 0 22 x1))) else (some (0, r2.2)))))
set_option maxRecDepth 100000 in
set_option maxHeartbeats 4000000 in
theorem b_X4_seed_16 (C0 : Cx p l s m args meth c cX4_seed 3 RX4 D cy n0) (hR : meth.sig.returnType = (some .int)) (σ : Sg) (x1 : Int32) (s0 : Int32) (H : Heap) (locs : List Loc) (ls : Array Slot) (hh : Hp D cy n0 ad nT nO s σ H locs) (hl : lv_has ls 3 [(0, .ref (ad 7 0)), (1, .int x1)]) : Sm (Qr below args s D cy n0 ad nT nO vI 0 0) (f_X4_seed_16 σ x1 s0) p l e rmX4_seed s m args below meth c H locs 0 0 (F0 m 16 ls [.int s0, .ref (ad 7 0)]) := by
  unfold f_X4_seed_16
  refine s_V (As := [.int s0]) (rest := []) C0 hh (c_X4_isWrong C0.2.2.2.2.2.2 _ s0) (qc51 C0.1.2.2.2.2 ⟨Nat.le_of_ble_eq_true rfl, Nat.le_of_ble_eq_true rfl⟩) (rl_b (by decide)) rfl rfl rfl hl.1 rfl (lv_room (Nat.le_of_ble_eq_true rfl)) dX4_seed_16 ⟨Nat.le_of_ble_eq_true rfl, Nat.le_of_ble_eq_true rfl⟩ (fun r2 H locs hor2 hh => ?_)
  refine s_if_eq (tgt := 24) C0 dX4_seed_19 (by decide) (fun _ => ?_) (fun _ => ?_)
  · refine s_aload_n C0 dX4_seed_24 rfl (lv_at hl 0 rfl) ?_
    refine s_get (v := .int (r2.2.1 7 0 22)) C0 hh (rl_b (by decide)) rfl (T := TX4) (N := 28) rfl hinX4 (by decide) w56 rfl dX4_seed_25 ?_
    refine s_istore_n (lv' := [(2, .int (r2.2.1 7 0 22)), (0, .ref (ad 7 0)), (1, .int x1)]) C0 dX4_seed_28 rfl hl (by decide) rfl (fun ls hl => ?_)
    refine s_aload_n C0 dX4_seed_29 rfl (lv_at hl 1 rfl) ?_
    refine s_iload_n C0 dX4_seed_30 rfl (lv_at hl 2 rfl) ?_
    refine s_put C0 hh (rl_b (by decide)) rfl rfl (T := TX4) (N := 28) rfl hinX4 tyX4 tyX4_ok nmX4 (by decide) w56 rfl (ty := .int) (by decide +kernel) rfl rfl (Nat.le_of_ble_eq_true rfl) (by decide) (by decide) (by decide) dX4_seed_31 (fun H locs hh => ?_)
    refine s_iload_n C0 dX4_seed_34 rfl (lv_at hl 0 rfl) ?_
    exact s_iret C0 hh hR rfl (Nat.le_of_ble_eq_true rfl) (Nat.le_of_ble_eq_true rfl) dX4_seed_35
  · refine s_iconst (v := 0) C0 dX4_seed_22 (by decide) ?_
    exact s_iret C0 hh hR rfl (Nat.le_of_ble_eq_true rfl) (Nat.le_of_ble_eq_true rfl) dX4_seed_23
def f_X4_seed_0 (σ : Sg) (x1 : Int32) : Option (Int32 × Sg) :=
  ((f_X4_isBetween σ x1 1 2147483646).bind (fun r1 => (if (r1.1 : Int32) = (0 : Int32) then (f_X4_seed_16 r1.2 x1 1) else (f_X4_seed_16 r1.2 x1 0))))
set_option maxRecDepth 100000 in
set_option maxHeartbeats 4000000 in
theorem b_X4_seed_0 (C0 : Cx p l s m args meth c cX4_seed 3 RX4 D cy n0) (hR : meth.sig.returnType = (some .int)) (σ : Sg) (x1 : Int32) (H : Heap) (locs : List Loc) (ls : Array Slot) (hh : Hp D cy n0 ad nT nO s σ H locs) (hl : lv_has ls 3 [(0, .ref (ad 7 0)), (1, .int x1)]) : Sm (Qr below args s D cy n0 ad nT nO vI 0 0) (f_X4_seed_0 σ x1) p l e rmX4_seed s m args below meth c H locs 0 0 (F0 m 0 ls []) := by
  unfold f_X4_seed_0
  refine s_aload_n C0 dX4_seed_0 rfl (lv_at hl 0 rfl) ?_
  refine s_iload_n C0 dX4_seed_1 rfl (lv_at hl 1 rfl) ?_
  refine s_iconst (v := 1) C0 dX4_seed_2 (by decide) ?_
  refine s_ldc (v := 2147483646) C0 w373 dX4_seed_3 ?_
  refine s_S (As := [.int x1, .int 1, .int 2147483646]) (rest := [.ref (ad 7 0)]) C0 hh (c_X4_isBetween C0.2.2.2.2.2.2 _ x1 1 2147483646) (qc50 C0.1.2.2.2.2 ⟨Nat.le_of_ble_eq_true rfl, Nat.le_of_ble_eq_true rfl⟩) rfl hl.1 rfl (lv_room (Nat.le_of_ble_eq_true rfl)) dX4_seed_5 ⟨Nat.le_of_ble_eq_true rfl, Nat.le_of_ble_eq_true rfl⟩ (fun r1 H locs hor1 hh => ?_)
  refine s_if_eq (tgt := 15) C0 dX4_seed_8 (by decide) (fun _ => ?_) (fun _ => ?_)
  · refine s_iconst (v := 1) C0 dX4_seed_15 (by decide) ?_
    exact b_X4_seed_16 C0 hR r1.2 x1 1 _ _ _ hh (lv_sub hl [0, 1] rfl)
  · refine s_iconst (v := 0) C0 dX4_seed_11 (by decide) ?_
    refine s_goto (tgt := 16) C0 dX4_seed_12 (by decide) ?_
    exact b_X4_seed_16 C0 hR r1.2 x1 0 _ _ _ hh (lv_sub hl [0, 1] rfl)
def f_X4_seed (σ : Sg) (x1 : Int32) : Option (Int32 × Sg) := f_X4_seed_0 σ x1
set_option maxRecDepth 100000 in
set_option maxHeartbeats 4000000 in
theorem c_X4_seed (hst : l.stackTraces = false) (σ : Sg) (x1 : Int32) : Ct l yX4_seed (wm yX4_seed cX4_seed 3 (some .int)) rmX4_seed 0 0 vI [.ref (ad 7 0), .int x1] D cy n0 ad nT nO  σ (f_X4_seed σ x1) := by
  intro r0 h0
  refine Met.ofW (cc := cX4_seed) (maxL := 3) (ret := (some .int)) (by decide +kernel) rfl ?_
  intro p e s m args below meth c s₁ B hml hv
  obtain ⟨C0, hh, hR, rfl⟩ := ent B hml hst hv
  rw [lg_entry_eq]
  have hl := lv_entry ([.ref (ad 7 0), .int x1]) (n := 3) (Nat.le_of_ble_eq_true rfl)
  generalize (lg_sl ([.ref (ad 7 0), .int x1]) ++ List.replicate (3 - (lg_sl ([.ref (ad 7 0), .int x1])).length) Slot.unset).toArray = ls at hl ⊢
  exact b_X4_seed_0 C0 hR σ x1 _ _ _ hh hl r0 h0
theorem qc67 {R : Room} {s : State} {args : Array Value} (ht : ∀ w ∈ allw, w.before args s = true) (hR : (rmX4_stroke).frames + 1 ≤ R.frames ∧ 8 + (6 + 11) + (rmX4_stroke).locals ≤ R.locals) : CallW R s args RX4 RX4 152 yX4_stroke cX4_stroke 6 (some .int) (wm yX4_stroke cX4_stroke 6 (some .int)) rmX4_stroke 0 0 2 := cwV 2 ht (gd_of (fun _ h => h) _ (mV w374 w376 w377 w310 w375)) rfl rfl rfl (by decide +kernel) hR
def rmX4_strokes : Room := { frames := 4, cells := 0, slots := 0, locals := 88 }
def g_X4_strokes_70 (rec70 : Sg → Int32 → Int32 → Int32 → Int32 → Int32 → Option (Int32 × Sg)) (σ : Sg) (x1 : Int32) (x2 : Int32) (x3 : Int32) (x4 : Int32) (x5 : Int32) : Option (Int32 × Sg) :=
  (if x3 ≤ (x5 : Int32) then (if (x1 : Int32) < 0 ∨ 8 ≤ (x1 : Int32).toNatClampNeg then none else (if (x1 : Int32) < 0 ∨ 8 ≤ (x1 : Int32).toNatClampNeg then none else (some (x4, (sv σ 8 14 (x1 : Int32).toNatClampNeg ((σ.1 8 14 (x1 : Int32).toNatClampNeg) + x4)))))) else ((f_X4_stroke σ x1 x2).bind (fun r4 => (rec70 r4.2 x1 x2 x3 (x4 + r4.1) (x5 + 1)))))
def f_X4_strokes_70 : Nat → Sg → Int32 → Int32 → Int32 → Int32 → Int32 → Option (Int32 × Sg)
  | 0 => fun _ _ _ _ _ _ => none
  | n + 1 => fun σ x1 x2 x3 x4 x5 => g_X4_strokes_70 (f_X4_strokes_70 n) σ x1 x2 x3 x4 x5
set_option maxRecDepth 100000 in
set_option maxHeartbeats 4000000 in
theorem a_X4_strokes_70 (C0 : Cx p l s m args meth c cX4_strokes 6 RX4 D cy n0) (hR : meth.sig.returnType = (some .int)) (rec70 : Sg → Int32 → Int32 → Int32 → Int32 → Int32 → Option (Int32 × Sg)) (hrec70 : ∀ (σ : Sg) (x1 : Int32) (x2 : Int32) (x3 : Int32) (x4 : Int32) (x5 : Int32) (H : Heap) (locs : List Loc) (ls : Array Slot), Hp D cy n0 ad nT nO s σ H locs → lv_has ls 6 [(0, .ref (ad 7 0)), (1, .int x1), (2, .int x2), (3, .int x3), (4, .int x4), (5, .int x5)] → Sm (Qr below args s D cy n0 ad nT nO vI 0 0) (rec70 σ x1 x2 x3 x4 x5) p l e rmX4_strokes s m args below meth c H locs 0 0 (F0 m 70 ls [])) (σ : Sg) (x1 : Int32) (x2 : Int32) (x3 : Int32) (x4 : Int32) (x5 : Int32) (H : Heap) (locs : List Loc) (ls : Array Slot) (hh : Hp D cy n0 ad nT nO s σ H locs) (hl : lv_has ls 6 [(0, .ref (ad 7 0)), (1, .int x1), (2, .int x2), (3, .int x3), (4, .int x4), (5, .int x5)]) : Sm (Qr below args s D cy n0 ad nT nO vI 0 0) (g_X4_strokes_70 rec70 σ x1 x2 x3 x4 x5) p l e rmX4_strokes s m args below meth c H locs 0 0 (F0 m 70 ls []) := by
  unfold g_X4_strokes_70
  refine s_iload C0 dX4_strokes_70 (lv_at hl 5 rfl) ?_
  refine s_iload_n C0 dX4_strokes_72 rfl (lv_at hl 3 rfl) ?_
  refine s_icmp_ge (tgt := 93) C0 dX4_strokes_73 (by decide) (fun _ => ?_) (fun _ => ?_)
  · refine s_aload_n C0 dX4_strokes_93 rfl (lv_at hl 0 rfl) ?_
    refine s_get (v := .ref (ad 8 14)) C0 hh (rl_b (by decide)) rfl (T := TX4) (N := 28) rfl hinX4 (by decide) w47 rfl dX4_strokes_94 ?_
    refine s_iload_n C0 dX4_strokes_97 rfl (lv_at hl 1 rfl) ?_
    refine s_dup2 C0 dX4_strokes_98 rfl rfl ?_
    refine s_iald (g := (σ.1 8 14)) C0 hh rfl (rl_b (by decide)) (fun _ => rfl) (t0 := 1) rfl dX4_strokes_99 ?_
    refine s_iload C0 dX4_strokes_100 (lv_at hl 4 rfl) ?_
    refine s_iadd C0 dX4_strokes_102 ?_
    refine s_iast C0 hh (rl_b (by decide)) (fun _ => rfl) (t0 := 1) rfl (by decide) (by decide) (by decide) dX4_strokes_103 (fun H locs hh => ?_)
    refine s_iload C0 dX4_strokes_104 (lv_at hl 4 rfl) ?_
    exact s_iret C0 hh hR rfl (Nat.le_of_ble_eq_true rfl) (Nat.le_of_ble_eq_true rfl) dX4_strokes_106
  · refine s_iload C0 dX4_strokes_76 (lv_at hl 4 rfl) ?_
    refine s_aload_n C0 dX4_strokes_78 rfl (lv_at hl 0 rfl) ?_
    refine s_iload_n C0 dX4_strokes_79 rfl (lv_at hl 1 rfl) ?_
    refine s_iload_n C0 dX4_strokes_80 rfl (lv_at hl 2 rfl) ?_
    refine s_V (As := [.int x1, .int x2]) (rest := [.int x4]) C0 hh (c_X4_stroke C0.2.2.2.2.2.2 _ x1 x2) (qc67 C0.1.2.2.2.2 ⟨Nat.le_of_ble_eq_true rfl, Nat.le_of_ble_eq_true rfl⟩) (rl_b (by decide)) rfl rfl rfl hl.1 rfl (lv_room (Nat.le_of_ble_eq_true rfl)) dX4_strokes_81 ⟨Nat.le_of_ble_eq_true rfl, Nat.le_of_ble_eq_true rfl⟩ (fun r4 H locs hor4 hh => ?_)
    refine s_iadd C0 dX4_strokes_84 ?_
    refine s_istore (lv' := [(4, .int (x4 + r4.1)), (0, .ref (ad 7 0)), (1, .int x1), (2, .int x2), (3, .int x3), (5, .int x5)]) C0 dX4_strokes_85 hl (by decide) rfl (fun ls hl => ?_)
    refine s_iinc (k := 5) (v := (x5 + 1)) (lv' := [(5, .int (x5 + 1)), (4, .int (x4 + r4.1)), (0, .ref (ad 7 0)), (1, .int x1), (2, .int x2), (3, .int x3)]) C0 dX4_strokes_87 hl rfl rfl (by decide) rfl (fun ls hl => ?_)
    refine s_goto (tgt := 70) C0 dX4_strokes_90 (by decide) ?_
    exact hrec70 r4.2 x1 x2 x3 (x4 + r4.1) (x5 + 1) _ _ _ hh (lv_sub hl [2, 3, 4, 5, 1, 0] rfl)
theorem b_X4_strokes_70 (C0 : Cx p l s m args meth c cX4_strokes 6 RX4 D cy n0) (hR : meth.sig.returnType = (some .int)) : ∀ (n : Nat) (σ : Sg) (x1 : Int32) (x2 : Int32) (x3 : Int32) (x4 : Int32) (x5 : Int32) (H : Heap) (locs : List Loc) (ls : Array Slot) (hh : Hp D cy n0 ad nT nO s σ H locs) (hl : lv_has ls 6 [(0, .ref (ad 7 0)), (1, .int x1), (2, .int x2), (3, .int x3), (4, .int x4), (5, .int x5)]), Sm (Qr below args s D cy n0 ad nT nO vI 0 0) (f_X4_strokes_70 n σ x1 x2 x3 x4 x5) p l e rmX4_strokes s m args below meth c H locs 0 0 (F0 m 70 ls []) := by
  intro n
  induction n with
  | zero => intros; intro r h; cases h
  | succ n ih => intro σ x1 x2 x3 x4 x5 H locs ls hh hl; exact a_X4_strokes_70 C0 hR (f_X4_strokes_70 n) ih σ x1 x2 x3 x4 x5 H locs ls hh hl
def f_X4_strokes_49 (σ : Sg) (x1 : Int32) (x2 : Int32) (x3 : Int32) (s0 : Int32) : Option (Int32 × Sg) :=
  ((f_X4_isWrong σ s0).bind (fun r3 => (if (r3.1 : Int32) = (0 : Int32) then (if (x1 : Int32) < 0 ∨ 8 ≤ (x1 : Int32).toNatClampNeg then none else (f_X4_strokes_70 70 (sv r3.2 8 18 (x1 : Int32).toNatClampNeg (vp_nar .boolean 0)) x1 x2 x3 0 0)) else (some (0, r3.2)))))
set_option maxRecDepth 100000 in
set_option maxHeartbeats 4000000 in
theorem b_X4_strokes_49 (C0 : Cx p l s m args meth c cX4_strokes 6 RX4 D cy n0) (hR : meth.sig.returnType = (some .int)) (σ : Sg) (x1 : Int32) (x2 : Int32) (x3 : Int32) (s0 : Int32) (H : Heap) (locs : List Loc) (ls : Array Slot) (hh : Hp D cy n0 ad nT nO s σ H locs) (hl : lv_has ls 6 [(0, .ref (ad 7 0)), (1, .int x1), (2, .int x2), (3, .int x3)]) : Sm (Qr below args s D cy n0 ad nT nO vI 0 0) (f_X4_strokes_49 σ x1 x2 x3 s0) p l e rmX4_strokes s m args below meth c H locs 0 0 (F0 m 49 ls [.int s0, .ref (ad 7 0)]) := by
  unfold f_X4_strokes_49
  refine s_V (As := [.int s0]) (rest := []) C0 hh (c_X4_isWrong C0.2.2.2.2.2.2 _ s0) (qc51 C0.1.2.2.2.2 ⟨Nat.le_of_ble_eq_true rfl, Nat.le_of_ble_eq_true rfl⟩) (rl_b (by decide)) rfl rfl rfl hl.1 rfl (lv_room (Nat.le_of_ble_eq_true rfl)) dX4_strokes_49 ⟨Nat.le_of_ble_eq_true rfl, Nat.le_of_ble_eq_true rfl⟩ (fun r3 H locs hor3 hh => ?_)
  refine s_if_eq (tgt := 57) C0 dX4_strokes_52 (by decide) (fun _ => ?_) (fun _ => ?_)
  · refine s_aload_n C0 dX4_strokes_57 rfl (lv_at hl 0 rfl) ?_
    refine s_get (v := .ref (ad 8 18)) C0 hh (rl_b (by decide)) rfl (T := TX4) (N := 28) rfl hinX4 (by decide) w52 rfl dX4_strokes_58 ?_
    refine s_iload_n C0 dX4_strokes_61 rfl (lv_at hl 1 rfl) ?_
    refine s_iconst (v := 0) C0 dX4_strokes_62 (by decide) ?_
    refine s_zast C0 hh (rl_b (by decide)) (fun _ => rfl) (t0 := 2) rfl (by decide) (by decide) (by decide) dX4_strokes_63 (fun H locs hh => ?_)
    refine s_iconst (v := 0) C0 dX4_strokes_64 (by decide) ?_
    refine s_istore (lv' := [(4, .int 0), (0, .ref (ad 7 0)), (1, .int x1), (2, .int x2), (3, .int x3)]) C0 dX4_strokes_65 hl (by decide) rfl (fun ls hl => ?_)
    refine s_iconst (v := 0) C0 dX4_strokes_67 (by decide) ?_
    refine s_istore (lv' := [(5, .int 0), (4, .int 0), (0, .ref (ad 7 0)), (1, .int x1), (2, .int x2), (3, .int x3)]) C0 dX4_strokes_68 hl (by decide) rfl (fun ls hl => ?_)
    exact b_X4_strokes_70 C0 hR 70 (sv r3.2 8 18 (x1 : Int32).toNatClampNeg (vp_nar .boolean 0)) x1 x2 x3 0 0 _ _ _ hh (lv_sub hl [2, 3, 4, 5, 1, 0] rfl)
  · refine s_iconst (v := 0) C0 dX4_strokes_55 (by decide) ?_
    exact s_iret C0 hh hR rfl (Nat.le_of_ble_eq_true rfl) (Nat.le_of_ble_eq_true rfl) dX4_strokes_56
def f_X4_strokes_29 (σ : Sg) (x1 : Int32) (x2 : Int32) (x3 : Int32) : Option (Int32 × Sg) :=
  (f_X4_strokes_49 σ x1 x2 x3 2)
set_option maxRecDepth 100000 in
set_option maxHeartbeats 4000000 in
theorem b_X4_strokes_29 (C0 : Cx p l s m args meth c cX4_strokes 6 RX4 D cy n0) (hR : meth.sig.returnType = (some .int)) (σ : Sg) (x1 : Int32) (x2 : Int32) (x3 : Int32) (H : Heap) (locs : List Loc) (ls : Array Slot) (hh : Hp D cy n0 ad nT nO s σ H locs) (hl : lv_has ls 6 [(0, .ref (ad 7 0)), (1, .int x1), (2, .int x2), (3, .int x3)]) : Sm (Qr below args s D cy n0 ad nT nO vI 0 0) (f_X4_strokes_29 σ x1 x2 x3) p l e rmX4_strokes s m args below meth c H locs 0 0 (F0 m 29 ls [.ref (ad 7 0)]) := by
  unfold f_X4_strokes_29
  refine s_iconst (v := 2) C0 dX4_strokes_29 (by decide) ?_
  refine s_goto (tgt := 49) C0 dX4_strokes_30 (by decide) ?_
  exact b_X4_strokes_49 C0 hR σ x1 x2 x3 2 _ _ _ hh (lv_sub hl [0, 1, 2, 3] rfl)
def f_X4_strokes_0 (σ : Sg) (x1 : Int32) (x2 : Int32) (x3 : Int32) : Option (Int32 × Sg) :=
  ((f_X4_isNone σ x1).bind (fun r1 => (if (r1.1 : Int32) = (0 : Int32) then ((f_X4_isBetween r1.2 x2 1 70).bind (fun r2 => (if (r2.1 : Int32) = (0 : Int32) then (f_X4_strokes_29 r2.2 x1 x2 x3) else ((f_X4_isBetween r2.2 x3 1 40).bind (fun r5 => (if (r5.1 : Int32) = (0 : Int32) then (f_X4_strokes_29 r5.2 x1 x2 x3) else (if (x1 : Int32) < 0 ∨ 8 ≤ (x1 : Int32).toNatClampNeg then none else (if ((r5.2.1 8 4 (x1 : Int32).toNatClampNeg) : Int32) = (104 : Int32) then (f_X4_strokes_49 r5.2 x1 x2 x3 0) else (f_X4_strokes_49 r5.2 x1 x2 x3 3))))))))) else (some (0, r1.2)))))
set_option maxRecDepth 100000 in
set_option maxHeartbeats 4000000 in
theorem b_X4_strokes_0 (C0 : Cx p l s m args meth c cX4_strokes 6 RX4 D cy n0) (hR : meth.sig.returnType = (some .int)) (σ : Sg) (x1 : Int32) (x2 : Int32) (x3 : Int32) (H : Heap) (locs : List Loc) (ls : Array Slot) (hh : Hp D cy n0 ad nT nO s σ H locs) (hl : lv_has ls 6 [(0, .ref (ad 7 0)), (1, .int x1), (2, .int x2), (3, .int x3)]) : Sm (Qr below args s D cy n0 ad nT nO vI 0 0) (f_X4_strokes_0 σ x1 x2 x3) p l e rmX4_strokes s m args below meth c H locs 0 0 (F0 m 0 ls []) := by
  unfold f_X4_strokes_0
  refine s_aload_n C0 dX4_strokes_0 rfl (lv_at hl 0 rfl) ?_
  refine s_iload_n C0 dX4_strokes_1 rfl (lv_at hl 1 rfl) ?_
  refine s_V (As := [.int x1]) (rest := []) C0 hh (c_X4_isNone C0.2.2.2.2.2.2 _ x1) (qc56 C0.1.2.2.2.2 ⟨Nat.le_of_ble_eq_true rfl, Nat.le_of_ble_eq_true rfl⟩) (rl_b (by decide)) rfl rfl rfl hl.1 rfl (lv_room (Nat.le_of_ble_eq_true rfl)) dX4_strokes_2 ⟨Nat.le_of_ble_eq_true rfl, Nat.le_of_ble_eq_true rfl⟩ (fun r1 H locs hor1 hh => ?_)
  refine s_if_ne (tgt := 55) C0 dX4_strokes_5 (by decide) (fun _ => ?_) (fun _ => ?_)
  · refine s_iconst (v := 0) C0 dX4_strokes_55 (by decide) ?_
    exact s_iret C0 hh hR rfl (Nat.le_of_ble_eq_true rfl) (Nat.le_of_ble_eq_true rfl) dX4_strokes_56
  · refine s_aload_n C0 dX4_strokes_8 rfl (lv_at hl 0 rfl) ?_
    refine s_iload_n C0 dX4_strokes_9 rfl (lv_at hl 2 rfl) ?_
    refine s_iconst (v := 1) C0 dX4_strokes_10 (by decide) ?_
    refine s_bipush (v := 70) C0 dX4_strokes_11 (by decide) ?_
    refine s_S (As := [.int x2, .int 1, .int 70]) (rest := [.ref (ad 7 0)]) C0 hh (c_X4_isBetween C0.2.2.2.2.2.2 _ x2 1 70) (qc50 C0.1.2.2.2.2 ⟨Nat.le_of_ble_eq_true rfl, Nat.le_of_ble_eq_true rfl⟩) rfl hl.1 rfl (lv_room (Nat.le_of_ble_eq_true rfl)) dX4_strokes_13 ⟨Nat.le_of_ble_eq_true rfl, Nat.le_of_ble_eq_true rfl⟩ (fun r2 H locs hor2 hh => ?_)
    refine s_if_eq (tgt := 29) C0 dX4_strokes_16 (by decide) (fun _ => ?_) (fun _ => ?_)
    · exact b_X4_strokes_29 C0 hR r2.2 x1 x2 x3 _ _ _ hh (lv_sub hl [0, 1, 2, 3] rfl)
    · refine s_iload_n C0 dX4_strokes_19 rfl (lv_at hl 3 rfl) ?_
      refine s_iconst (v := 1) C0 dX4_strokes_20 (by decide) ?_
      refine s_bipush (v := 40) C0 dX4_strokes_21 (by decide) ?_
      refine s_S (As := [.int x3, .int 1, .int 40]) (rest := [.ref (ad 7 0)]) C0 hh (c_X4_isBetween C0.2.2.2.2.2.2 _ x3 1 40) (qc50 C0.1.2.2.2.2 ⟨Nat.le_of_ble_eq_true rfl, Nat.le_of_ble_eq_true rfl⟩) rfl hl.1 rfl (lv_room (Nat.le_of_ble_eq_true rfl)) dX4_strokes_23 ⟨Nat.le_of_ble_eq_true rfl, Nat.le_of_ble_eq_true rfl⟩ (fun r5 H locs hor5 hh => ?_)
      refine s_if_ne (tgt := 33) C0 dX4_strokes_26 (by decide) (fun _ => ?_) (fun _ => ?_)
      · refine s_aload_n C0 dX4_strokes_33 rfl (lv_at hl 0 rfl) ?_
        refine s_get (v := .ref (ad 8 4)) C0 hh (rl_b (by decide)) rfl (T := TX4) (N := 28) rfl hinX4 (by decide) w37 rfl dX4_strokes_34 ?_
        refine s_iload_n C0 dX4_strokes_37 rfl (lv_at hl 1 rfl) ?_
        refine s_cald (g := (r5.2.1 8 4)) C0 hh rfl (rl_b (by decide)) (fun _ => rfl) (t0 := 0) rfl dX4_strokes_38 ?_
        refine s_bipush (v := 104) C0 dX4_strokes_39 (by decide) ?_
        refine s_icmp_eq (tgt := 48) C0 dX4_strokes_41 (by decide) (fun _ => ?_) (fun _ => ?_)
        · refine s_iconst (v := 0) C0 dX4_strokes_48 (by decide) ?_
          exact b_X4_strokes_49 C0 hR r5.2 x1 x2 x3 0 _ _ _ hh (lv_sub hl [0, 1, 2, 3] rfl)
        · refine s_iconst (v := 3) C0 dX4_strokes_44 (by decide) ?_
          refine s_goto (tgt := 49) C0 dX4_strokes_45 (by decide) ?_
          exact b_X4_strokes_49 C0 hR r5.2 x1 x2 x3 3 _ _ _ hh (lv_sub hl [0, 1, 2, 3] rfl)
      · exact b_X4_strokes_29 C0 hR r5.2 x1 x2 x3 _ _ _ hh (lv_sub hl [0, 1, 2, 3] rfl)
def f_X4_strokes (σ : Sg) (x1 : Int32) (x2 : Int32) (x3 : Int32) : Option (Int32 × Sg) := f_X4_strokes_0 σ x1 x2 x3
set_option maxRecDepth 100000 in
set_option maxHeartbeats 4000000 in
theorem c_X4_strokes (hst : l.stackTraces = false) (σ : Sg) (x1 : Int32) (x2 : Int32) (x3 : Int32) : Ct l yX4_strokes (wm yX4_strokes cX4_strokes 6 (some .int)) rmX4_strokes 0 0 vI [.ref (ad 7 0), .int x1, .int x2, .int x3] D cy n0 ad nT nO  σ (f_X4_strokes σ x1 x2 x3) := by
  intro r0 h0
  refine Met.ofW (cc := cX4_strokes) (maxL := 6) (ret := (some .int)) (by decide +kernel) rfl ?_
  intro p e s m args below meth c s₁ B hml hv
  obtain ⟨C0, hh, hR, rfl⟩ := ent B hml hst hv
  rw [lg_entry_eq]
  have hl := lv_entry ([.ref (ad 7 0), .int x1, .int x2, .int x3]) (n := 6) (Nat.le_of_ble_eq_true rfl)
  generalize (lg_sl ([.ref (ad 7 0), .int x1, .int x2, .int x3]) ++ List.replicate (6 - (lg_sl ([.ref (ad 7 0), .int x1, .int x2, .int x3])).length) Slot.unset).toArray = ls at hl ⊢
  exact b_X4_strokes_0 C0 hR σ x1 x2 x3 _ _ _ hh hl r0 h0

def rmX4_chips : Room := { frames := 2, cells := 0, slots := 0, locals := 43 }
def f_X4_chips_0 (σ : Sg) (x1 : Int32) : Option (Int32 × Sg) :=
  ((f_X4_isNone σ x1).bind (fun r1 => (if (r1.1 : Int32) = (0 : Int32) then (if (x1 : Int32) < 0 ∨ 8 ≤ (x1 : Int32).toNatClampNeg then none else (some ((r1.2.1 8 13 (x1 : Int32).toNatClampNeg), r1.2))) else (some (0, r1.2)))))
set_option maxRecDepth 100000 in
set_option maxHeartbeats 4000000 in
theorem b_X4_chips_0 (C0 : Cx p l s m args meth c cX4_chips 2 RX4 D cy n0) (hR : meth.sig.returnType = (some .int)) (σ : Sg) (x1 : Int32) (H : Heap) (locs : List Loc) (ls : Array Slot) (hh : Hp D cy n0 ad nT nO s σ H locs) (hl : lv_has ls 2 [(0, .ref (ad 7 0)), (1, .int x1)]) : Sm (Qr below args s D cy n0 ad nT nO vI 0 0) (f_X4_chips_0 σ x1) p l e rmX4_chips s m args below meth c H locs 0 0 (F0 m 0 ls []) := by
  unfold f_X4_chips_0
  refine s_aload_n C0 dX4_chips_0 rfl (lv_at hl 0 rfl) ?_
  refine s_iload_n C0 dX4_chips_1 rfl (lv_at hl 1 rfl) ?_
  refine s_V (As := [.int x1]) (rest := []) C0 hh (c_X4_isNone C0.2.2.2.2.2.2 _ x1) (qc56 C0.1.2.2.2.2 ⟨Nat.le_of_ble_eq_true rfl, Nat.le_of_ble_eq_true rfl⟩) (rl_b (by decide)) rfl rfl rfl hl.1 rfl (lv_room (Nat.le_of_ble_eq_true rfl)) dX4_chips_2 ⟨Nat.le_of_ble_eq_true rfl, Nat.le_of_ble_eq_true rfl⟩ (fun r1 H locs hor1 hh => ?_)
  refine s_if_eq (tgt := 12) C0 dX4_chips_5 (by decide) (fun _ => ?_) (fun _ => ?_)
  · refine s_aload_n C0 dX4_chips_12 rfl (lv_at hl 0 rfl) ?_
    refine s_get (v := .ref (ad 8 13)) C0 hh (rl_b (by decide)) rfl (T := TX4) (N := 28) rfl hinX4 (by decide) w46 rfl dX4_chips_13 ?_
    refine s_iload_n C0 dX4_chips_16 rfl (lv_at hl 1 rfl) ?_
    refine s_iald (g := (r1.2.1 8 13)) C0 hh rfl (rl_b (by decide)) (fun _ => rfl) (t0 := 1) rfl dX4_chips_17 ?_
    exact s_iret C0 hh hR rfl (Nat.le_of_ble_eq_true rfl) (Nat.le_of_ble_eq_true rfl) dX4_chips_18
  · refine s_iconst (v := 0) C0 dX4_chips_8 (by decide) ?_
    refine s_goto (tgt := 18) C0 dX4_chips_9 (by decide) ?_
    exact s_iret C0 hh hR rfl (Nat.le_of_ble_eq_true rfl) (Nat.le_of_ble_eq_true rfl) dX4_chips_18
def f_X4_chips (σ : Sg) (x1 : Int32) : Option (Int32 × Sg) := f_X4_chips_0 σ x1
set_option maxRecDepth 100000 in
set_option maxHeartbeats 4000000 in
theorem c_X4_chips (hst : l.stackTraces = false) (σ : Sg) (x1 : Int32) : Ct l yX4_chips (wm yX4_chips cX4_chips 2 (some .int)) rmX4_chips 0 0 vI [.ref (ad 7 0), .int x1] D cy n0 ad nT nO  σ (f_X4_chips σ x1) := by
  intro r0 h0
  refine Met.ofW (cc := cX4_chips) (maxL := 2) (ret := (some .int)) (by decide +kernel) rfl ?_
  intro p e s m args below meth c s₁ B hml hv
  obtain ⟨C0, hh, hR, rfl⟩ := ent B hml hst hv
  rw [lg_entry_eq]
  have hl := lv_entry ([.ref (ad 7 0), .int x1]) (n := 2) (Nat.le_of_ble_eq_true rfl)
  generalize (lg_sl ([.ref (ad 7 0), .int x1]) ++ List.replicate (2 - (lg_sl ([.ref (ad 7 0), .int x1])).length) Slot.unset).toArray = ls at hl ⊢
  exact b_X4_chips_0 C0 hR σ x1 _ _ _ hh hl r0 h0

def rmX4_brush : Room := { frames := 2, cells := 0, slots := 0, locals := 43 }
def f_X4_brush_0 (σ : Sg) (x1 : Int32) : Option (Int32 × Sg) :=
  ((f_X4_isNone σ x1).bind (fun r1 => (if (r1.1 : Int32) = (0 : Int32) then (if (x1 : Int32) < 0 ∨ 8 ≤ (x1 : Int32).toNatClampNeg then none else (if (x1 : Int32) < 0 ∨ 8 ≤ (x1 : Int32).toNatClampNeg then none else (if (x1 : Int32) < 0 ∨ 8 ≤ (x1 : Int32).toNatClampNeg then none else (some ((r1.2.1 8 13 (x1 : Int32).toNatClampNeg), (sv (sv r1.2 8 13 (x1 : Int32).toNatClampNeg 0) 8 18 (x1 : Int32).toNatClampNeg (vp_nar .boolean 0))))))) else (some (0, r1.2)))))
set_option maxRecDepth 100000 in
set_option maxHeartbeats 4000000 in
theorem b_X4_brush_0 (C0 : Cx p l s m args meth c cX4_brush 3 RX4 D cy n0) (hR : meth.sig.returnType = (some .int)) (σ : Sg) (x1 : Int32) (H : Heap) (locs : List Loc) (ls : Array Slot) (hh : Hp D cy n0 ad nT nO s σ H locs) (hl : lv_has ls 3 [(0, .ref (ad 7 0)), (1, .int x1)]) : Sm (Qr below args s D cy n0 ad nT nO vI 0 0) (f_X4_brush_0 σ x1) p l e rmX4_brush s m args below meth c H locs 0 0 (F0 m 0 ls []) := by
  unfold f_X4_brush_0
  refine s_aload_n C0 dX4_brush_0 rfl (lv_at hl 0 rfl) ?_
  refine s_iload_n C0 dX4_brush_1 rfl (lv_at hl 1 rfl) ?_
  refine s_V (As := [.int x1]) (rest := []) C0 hh (c_X4_isNone C0.2.2.2.2.2.2 _ x1) (qc56 C0.1.2.2.2.2 ⟨Nat.le_of_ble_eq_true rfl, Nat.le_of_ble_eq_true rfl⟩) (rl_b (by decide)) rfl rfl rfl hl.1 rfl (lv_room (Nat.le_of_ble_eq_true rfl)) dX4_brush_2 ⟨Nat.le_of_ble_eq_true rfl, Nat.le_of_ble_eq_true rfl⟩ (fun r1 H locs hor1 hh => ?_)
  refine s_if_eq (tgt := 10) C0 dX4_brush_5 (by decide) (fun _ => ?_) (fun _ => ?_)
  · refine s_aload_n C0 dX4_brush_10 rfl (lv_at hl 0 rfl) ?_
    refine s_get (v := .ref (ad 8 13)) C0 hh (rl_b (by decide)) rfl (T := TX4) (N := 28) rfl hinX4 (by decide) w46 rfl dX4_brush_11 ?_
    refine s_iload_n C0 dX4_brush_14 rfl (lv_at hl 1 rfl) ?_
    refine s_iald (g := (r1.2.1 8 13)) C0 hh rfl (rl_b (by decide)) (fun _ => rfl) (t0 := 1) rfl dX4_brush_15 ?_
    refine s_istore_n (lv' := [(2, .int (r1.2.1 8 13 (x1 : Int32).toNatClampNeg)), (0, .ref (ad 7 0)), (1, .int x1)]) C0 dX4_brush_16 rfl hl (by decide) rfl (fun ls hl => ?_)
    refine s_aload_n C0 dX4_brush_17 rfl (lv_at hl 1 rfl) ?_
    refine s_get (v := .ref (ad 8 13)) C0 hh (rl_b (by decide)) rfl (T := TX4) (N := 28) rfl hinX4 (by decide) w46 rfl dX4_brush_18 ?_
    refine s_iload_n C0 dX4_brush_21 rfl (lv_at hl 2 rfl) ?_
    refine s_iconst (v := 0) C0 dX4_brush_22 (by decide) ?_
    refine s_iast C0 hh (rl_b (by decide)) (fun _ => rfl) (t0 := 1) rfl (by decide) (by decide) (by decide) dX4_brush_23 (fun H locs hh => ?_)
    refine s_aload_n C0 dX4_brush_24 rfl (lv_at hl 1 rfl) ?_
    refine s_get (v := .ref (ad 8 18)) C0 hh (rl_b (by decide)) rfl (T := TX4) (N := 28) rfl hinX4 (by decide) w52 rfl dX4_brush_25 ?_
    refine s_iload_n C0 dX4_brush_28 rfl (lv_at hl 2 rfl) ?_
    refine s_iconst (v := 0) C0 dX4_brush_29 (by decide) ?_
    refine s_zast C0 hh (rl_b (by decide)) (fun _ => rfl) (t0 := 2) rfl (by decide) (by decide) (by decide) dX4_brush_30 (fun H locs hh => ?_)
    refine s_iload_n C0 dX4_brush_31 rfl (lv_at hl 0 rfl) ?_
    exact s_iret C0 hh hR rfl (Nat.le_of_ble_eq_true rfl) (Nat.le_of_ble_eq_true rfl) dX4_brush_32
  · refine s_iconst (v := 0) C0 dX4_brush_8 (by decide) ?_
    exact s_iret C0 hh hR rfl (Nat.le_of_ble_eq_true rfl) (Nat.le_of_ble_eq_true rfl) dX4_brush_9
def f_X4_brush (σ : Sg) (x1 : Int32) : Option (Int32 × Sg) := f_X4_brush_0 σ x1
set_option maxRecDepth 100000 in
set_option maxHeartbeats 4000000 in
theorem c_X4_brush (hst : l.stackTraces = false) (σ : Sg) (x1 : Int32) : Ct l yX4_brush (wm yX4_brush cX4_brush 3 (some .int)) rmX4_brush 0 0 vI [.ref (ad 7 0), .int x1] D cy n0 ad nT nO  σ (f_X4_brush σ x1) := by
  intro r0 h0
  refine Met.ofW (cc := cX4_brush) (maxL := 3) (ret := (some .int)) (by decide +kernel) rfl ?_
  intro p e s m args below meth c s₁ B hml hv
  obtain ⟨C0, hh, hR, rfl⟩ := ent B hml hst hv
  rw [lg_entry_eq]
  have hl := lv_entry ([.ref (ad 7 0), .int x1]) (n := 3) (Nat.le_of_ble_eq_true rfl)
  generalize (lg_sl ([.ref (ad 7 0), .int x1]) ++ List.replicate (3 - (lg_sl ([.ref (ad 7 0), .int x1])).length) Slot.unset).toArray = ls at hl ⊢
  exact b_X4_brush_0 C0 hR σ x1 _ _ _ hh hl r0 h0

def rmX4_work : Room := { frames := 2, cells := 0, slots := 0, locals := 43 }
def f_X4_work_0 (σ : Sg) (x1 : Int32) : Option (Int32 × Sg) :=
  ((f_X4_isNone σ x1).bind (fun r1 => (if (r1.1 : Int32) = (0 : Int32) then (if (x1 : Int32) < 0 ∨ 8 ≤ (x1 : Int32).toNatClampNeg then none else (some ((r1.2.1 8 14 (x1 : Int32).toNatClampNeg), r1.2))) else (some (0, r1.2)))))
set_option maxRecDepth 100000 in
set_option maxHeartbeats 4000000 in
theorem b_X4_work_0 (C0 : Cx p l s m args meth c cX4_work 2 RX4 D cy n0) (hR : meth.sig.returnType = (some .int)) (σ : Sg) (x1 : Int32) (H : Heap) (locs : List Loc) (ls : Array Slot) (hh : Hp D cy n0 ad nT nO s σ H locs) (hl : lv_has ls 2 [(0, .ref (ad 7 0)), (1, .int x1)]) : Sm (Qr below args s D cy n0 ad nT nO vI 0 0) (f_X4_work_0 σ x1) p l e rmX4_work s m args below meth c H locs 0 0 (F0 m 0 ls []) := by
  unfold f_X4_work_0
  refine s_aload_n C0 dX4_work_0 rfl (lv_at hl 0 rfl) ?_
  refine s_iload_n C0 dX4_work_1 rfl (lv_at hl 1 rfl) ?_
  refine s_V (As := [.int x1]) (rest := []) C0 hh (c_X4_isNone C0.2.2.2.2.2.2 _ x1) (qc56 C0.1.2.2.2.2 ⟨Nat.le_of_ble_eq_true rfl, Nat.le_of_ble_eq_true rfl⟩) (rl_b (by decide)) rfl rfl rfl hl.1 rfl (lv_room (Nat.le_of_ble_eq_true rfl)) dX4_work_2 ⟨Nat.le_of_ble_eq_true rfl, Nat.le_of_ble_eq_true rfl⟩ (fun r1 H locs hor1 hh => ?_)
  refine s_if_eq (tgt := 12) C0 dX4_work_5 (by decide) (fun _ => ?_) (fun _ => ?_)
  · refine s_aload_n C0 dX4_work_12 rfl (lv_at hl 0 rfl) ?_
    refine s_get (v := .ref (ad 8 14)) C0 hh (rl_b (by decide)) rfl (T := TX4) (N := 28) rfl hinX4 (by decide) w47 rfl dX4_work_13 ?_
    refine s_iload_n C0 dX4_work_16 rfl (lv_at hl 1 rfl) ?_
    refine s_iald (g := (r1.2.1 8 14)) C0 hh rfl (rl_b (by decide)) (fun _ => rfl) (t0 := 1) rfl dX4_work_17 ?_
    exact s_iret C0 hh hR rfl (Nat.le_of_ble_eq_true rfl) (Nat.le_of_ble_eq_true rfl) dX4_work_18
  · refine s_iconst (v := 0) C0 dX4_work_8 (by decide) ?_
    refine s_goto (tgt := 18) C0 dX4_work_9 (by decide) ?_
    exact s_iret C0 hh hR rfl (Nat.le_of_ble_eq_true rfl) (Nat.le_of_ble_eq_true rfl) dX4_work_18
def f_X4_work (σ : Sg) (x1 : Int32) : Option (Int32 × Sg) := f_X4_work_0 σ x1
set_option maxRecDepth 100000 in
set_option maxHeartbeats 4000000 in
theorem c_X4_work (hst : l.stackTraces = false) (σ : Sg) (x1 : Int32) : Ct l yX4_work (wm yX4_work cX4_work 2 (some .int)) rmX4_work 0 0 vI [.ref (ad 7 0), .int x1] D cy n0 ad nT nO  σ (f_X4_work σ x1) := by
  intro r0 h0
  refine Met.ofW (cc := cX4_work) (maxL := 2) (ret := (some .int)) (by decide +kernel) rfl ?_
  intro p e s m args below meth c s₁ B hml hv
  obtain ⟨C0, hh, hR, rfl⟩ := ent B hml hst hv
  rw [lg_entry_eq]
  have hl := lv_entry ([.ref (ad 7 0), .int x1]) (n := 2) (Nat.le_of_ble_eq_true rfl)
  generalize (lg_sl ([.ref (ad 7 0), .int x1]) ++ List.replicate (2 - (lg_sl ([.ref (ad 7 0), .int x1])).length) Slot.unset).toArray = ls at hl ⊢
  exact b_X4_work_0 C0 hR σ x1 _ _ _ hh hl r0 h0

def rmX4_soften : Room := { frames := 2, cells := 0, slots := 0, locals := 43 }
def f_X4_soften_25 (σ : Sg) (x1 : Int32) (s0 : Int32) : Option (Int32 × Sg) :=
  ((f_X4_isWrong σ s0).bind (fun r2 => (if (r2.1 : Int32) = (0 : Int32) then (if (x1 : Int32) < 0 ∨ 8 ≤ (x1 : Int32).toNatClampNeg then none else (if (x1 : Int32) < 0 ∨ 8 ≤ (x1 : Int32).toNatClampNeg then none else (if (x1 : Int32) < 0 ∨ 8 ≤ (x1 : Int32).toNatClampNeg then none else (if (x1 : Int32) < 0 ∨ 8 ≤ (x1 : Int32).toNatClampNeg then none else (some ((r2.2.1 8 10 (x1 : Int32).toNatClampNeg), (sv (sv (sv r2.2 8 10 (x1 : Int32).toNatClampNeg 0) 8 4 (x1 : Int32).toNatClampNeg (vp_nar .char 115)) 8 18 (x1 : Int32).toNatClampNeg (vp_nar .boolean 0)))))))) else (some (0, r2.2)))))
set_option maxRecDepth 100000 in
set_option maxHeartbeats 4000000 in
theorem b_X4_soften_25 (C0 : Cx p l s m args meth c cX4_soften 3 RX4 D cy n0) (hR : meth.sig.returnType = (some .int)) (σ : Sg) (x1 : Int32) (s0 : Int32) (H : Heap) (locs : List Loc) (ls : Array Slot) (hh : Hp D cy n0 ad nT nO s σ H locs) (hl : lv_has ls 3 [(0, .ref (ad 7 0)), (1, .int x1)]) : Sm (Qr below args s D cy n0 ad nT nO vI 0 0) (f_X4_soften_25 σ x1 s0) p l e rmX4_soften s m args below meth c H locs 0 0 (F0 m 25 ls [.int s0, .ref (ad 7 0)]) := by
  unfold f_X4_soften_25
  refine s_V (As := [.int s0]) (rest := []) C0 hh (c_X4_isWrong C0.2.2.2.2.2.2 _ s0) (qc51 C0.1.2.2.2.2 ⟨Nat.le_of_ble_eq_true rfl, Nat.le_of_ble_eq_true rfl⟩) (rl_b (by decide)) rfl rfl rfl hl.1 rfl (lv_room (Nat.le_of_ble_eq_true rfl)) dX4_soften_25 ⟨Nat.le_of_ble_eq_true rfl, Nat.le_of_ble_eq_true rfl⟩ (fun r2 H locs hor2 hh => ?_)
  refine s_if_eq (tgt := 33) C0 dX4_soften_28 (by decide) (fun _ => ?_) (fun _ => ?_)
  · refine s_aload_n C0 dX4_soften_33 rfl (lv_at hl 0 rfl) ?_
    refine s_get (v := .ref (ad 8 10)) C0 hh (rl_b (by decide)) rfl (T := TX4) (N := 28) rfl hinX4 (by decide) w43 rfl dX4_soften_34 ?_
    refine s_iload_n C0 dX4_soften_37 rfl (lv_at hl 1 rfl) ?_
    refine s_iald (g := (r2.2.1 8 10)) C0 hh rfl (rl_b (by decide)) (fun _ => rfl) (t0 := 1) rfl dX4_soften_38 ?_
    refine s_istore_n (lv' := [(2, .int (r2.2.1 8 10 (x1 : Int32).toNatClampNeg)), (0, .ref (ad 7 0)), (1, .int x1)]) C0 dX4_soften_39 rfl hl (by decide) rfl (fun ls hl => ?_)
    refine s_aload_n C0 dX4_soften_40 rfl (lv_at hl 1 rfl) ?_
    refine s_get (v := .ref (ad 8 10)) C0 hh (rl_b (by decide)) rfl (T := TX4) (N := 28) rfl hinX4 (by decide) w43 rfl dX4_soften_41 ?_
    refine s_iload_n C0 dX4_soften_44 rfl (lv_at hl 2 rfl) ?_
    refine s_iconst (v := 0) C0 dX4_soften_45 (by decide) ?_
    refine s_iast C0 hh (rl_b (by decide)) (fun _ => rfl) (t0 := 1) rfl (by decide) (by decide) (by decide) dX4_soften_46 (fun H locs hh => ?_)
    refine s_aload_n C0 dX4_soften_47 rfl (lv_at hl 1 rfl) ?_
    refine s_get (v := .ref (ad 8 4)) C0 hh (rl_b (by decide)) rfl (T := TX4) (N := 28) rfl hinX4 (by decide) w37 rfl dX4_soften_48 ?_
    refine s_iload_n C0 dX4_soften_51 rfl (lv_at hl 2 rfl) ?_
    refine s_bipush (v := 115) C0 dX4_soften_52 (by decide) ?_
    refine s_cast C0 hh (rl_b (by decide)) (fun _ => rfl) (t0 := 0) rfl (by decide) (by decide) (by decide) dX4_soften_54 (fun H locs hh => ?_)
    refine s_aload_n C0 dX4_soften_55 rfl (lv_at hl 1 rfl) ?_
    refine s_get (v := .ref (ad 8 18)) C0 hh (rl_b (by decide)) rfl (T := TX4) (N := 28) rfl hinX4 (by decide) w52 rfl dX4_soften_56 ?_
    refine s_iload_n C0 dX4_soften_59 rfl (lv_at hl 2 rfl) ?_
    refine s_iconst (v := 0) C0 dX4_soften_60 (by decide) ?_
    refine s_zast C0 hh (rl_b (by decide)) (fun _ => rfl) (t0 := 2) rfl (by decide) (by decide) (by decide) dX4_soften_61 (fun H locs hh => ?_)
    refine s_iload_n C0 dX4_soften_62 rfl (lv_at hl 0 rfl) ?_
    exact s_iret C0 hh hR rfl (Nat.le_of_ble_eq_true rfl) (Nat.le_of_ble_eq_true rfl) dX4_soften_63
  · refine s_iconst (v := 0) C0 dX4_soften_31 (by decide) ?_
    exact s_iret C0 hh hR rfl (Nat.le_of_ble_eq_true rfl) (Nat.le_of_ble_eq_true rfl) dX4_soften_32
def f_X4_soften_0 (σ : Sg) (x1 : Int32) : Option (Int32 × Sg) :=
  ((f_X4_isNone σ x1).bind (fun r1 => (if (r1.1 : Int32) = (0 : Int32) then (if (x1 : Int32) < 0 ∨ 8 ≤ (x1 : Int32).toNatClampNeg then none else (if ((r1.2.1 8 4 (x1 : Int32).toNatClampNeg) : Int32) = (104 : Int32) then (f_X4_soften_25 r1.2 x1 0) else (f_X4_soften_25 r1.2 x1 2))) else (some (0, r1.2)))))
set_option maxRecDepth 100000 in
set_option maxHeartbeats 4000000 in
theorem b_X4_soften_0 (C0 : Cx p l s m args meth c cX4_soften 3 RX4 D cy n0) (hR : meth.sig.returnType = (some .int)) (σ : Sg) (x1 : Int32) (H : Heap) (locs : List Loc) (ls : Array Slot) (hh : Hp D cy n0 ad nT nO s σ H locs) (hl : lv_has ls 3 [(0, .ref (ad 7 0)), (1, .int x1)]) : Sm (Qr below args s D cy n0 ad nT nO vI 0 0) (f_X4_soften_0 σ x1) p l e rmX4_soften s m args below meth c H locs 0 0 (F0 m 0 ls []) := by
  unfold f_X4_soften_0
  refine s_aload_n C0 dX4_soften_0 rfl (lv_at hl 0 rfl) ?_
  refine s_iload_n C0 dX4_soften_1 rfl (lv_at hl 1 rfl) ?_
  refine s_V (As := [.int x1]) (rest := []) C0 hh (c_X4_isNone C0.2.2.2.2.2.2 _ x1) (qc56 C0.1.2.2.2.2 ⟨Nat.le_of_ble_eq_true rfl, Nat.le_of_ble_eq_true rfl⟩) (rl_b (by decide)) rfl rfl rfl hl.1 rfl (lv_room (Nat.le_of_ble_eq_true rfl)) dX4_soften_2 ⟨Nat.le_of_ble_eq_true rfl, Nat.le_of_ble_eq_true rfl⟩ (fun r1 H locs hor1 hh => ?_)
  refine s_if_ne (tgt := 31) C0 dX4_soften_5 (by decide) (fun _ => ?_) (fun _ => ?_)
  · refine s_iconst (v := 0) C0 dX4_soften_31 (by decide) ?_
    exact s_iret C0 hh hR rfl (Nat.le_of_ble_eq_true rfl) (Nat.le_of_ble_eq_true rfl) dX4_soften_32
  · refine s_aload_n C0 dX4_soften_8 rfl (lv_at hl 0 rfl) ?_
    refine s_aload_n C0 dX4_soften_9 rfl (lv_at hl 0 rfl) ?_
    refine s_get (v := .ref (ad 8 4)) C0 hh (rl_b (by decide)) rfl (T := TX4) (N := 28) rfl hinX4 (by decide) w37 rfl dX4_soften_10 ?_
    refine s_iload_n C0 dX4_soften_13 rfl (lv_at hl 1 rfl) ?_
    refine s_cald (g := (r1.2.1 8 4)) C0 hh rfl (rl_b (by decide)) (fun _ => rfl) (t0 := 0) rfl dX4_soften_14 ?_
    refine s_bipush (v := 104) C0 dX4_soften_15 (by decide) ?_
    refine s_icmp_ne (tgt := 24) C0 dX4_soften_17 (by decide) (fun _ => ?_) (fun _ => ?_)
    · refine s_iconst (v := 2) C0 dX4_soften_24 (by decide) ?_
      exact b_X4_soften_25 C0 hR r1.2 x1 2 _ _ _ hh (lv_sub hl [0, 1] rfl)
    · refine s_iconst (v := 0) C0 dX4_soften_20 (by decide) ?_
      refine s_goto (tgt := 25) C0 dX4_soften_21 (by decide) ?_
      exact b_X4_soften_25 C0 hR r1.2 x1 0 _ _ _ hh (lv_sub hl [0, 1] rfl)
def f_X4_soften (σ : Sg) (x1 : Int32) : Option (Int32 × Sg) := f_X4_soften_0 σ x1
set_option maxRecDepth 100000 in
set_option maxHeartbeats 4000000 in
theorem c_X4_soften (hst : l.stackTraces = false) (σ : Sg) (x1 : Int32) : Ct l yX4_soften (wm yX4_soften cX4_soften 3 (some .int)) rmX4_soften 0 0 vI [.ref (ad 7 0), .int x1] D cy n0 ad nT nO  σ (f_X4_soften σ x1) := by
  intro r0 h0
  refine Met.ofW (cc := cX4_soften) (maxL := 3) (ret := (some .int)) (by decide +kernel) rfl ?_
  intro p e s m args below meth c s₁ B hml hv
  obtain ⟨C0, hh, hR, rfl⟩ := ent B hml hst hv
  rw [lg_entry_eq]
  have hl := lv_entry ([.ref (ad 7 0), .int x1]) (n := 3) (Nat.le_of_ble_eq_true rfl)
  generalize (lg_sl ([.ref (ad 7 0), .int x1]) ++ List.replicate (3 - (lg_sl ([.ref (ad 7 0), .int x1])).length) Slot.unset).toArray = ls at hl ⊢
  exact b_X4_soften_0 C0 hR σ x1 _ _ _ hh hl r0 h0

def rmX4_grind : Room := { frames := 2, cells := 0, slots := 0, locals := 43 }
def f_X4_grind_53 (σ : Sg) (x1 : Int32) (s0 : Int32) : Option (Int32 × Sg) :=
  ((f_X4_isWrong σ s0).bind (fun r2 => (if (r2.1 : Int32) = (0 : Int32) then (if (x1 : Int32) < 0 ∨ 8 ≤ (x1 : Int32).toNatClampNeg then none else ((f_X4_depth r2.2 x1).bind (fun r3 => (if (x1 : Int32) < 0 ∨ 8 ≤ (x1 : Int32).toNatClampNeg then none else (if (x1 : Int32) < 0 ∨ 8 ≤ (x1 : Int32).toNatClampNeg then none else (if (x1 : Int32) < 0 ∨ 8 ≤ (x1 : Int32).toNatClampNeg then none else (if (x1 : Int32) < 0 ∨ 8 ≤ (x1 : Int32).toNatClampNeg then none else (if (x1 : Int32) < 0 ∨ 8 ≤ (x1 : Int32).toNatClampNeg then none else (if (x1 : Int32) < 0 ∨ 8 ≤ (x1 : Int32).toNatClampNeg then none else (if (x1 : Int32) < 0 ∨ 8 ≤ (x1 : Int32).toNatClampNeg then none else (if (x1 : Int32) < 0 ∨ 8 ≤ (x1 : Int32).toNatClampNeg then none else (some (((sv r3.2 8 6 (x1 : Int32).toNatClampNeg ((r2.2.1 8 6 (x1 : Int32).toNatClampNeg) - (2 + r3.1))).1 8 6 (x1 : Int32).toNatClampNeg), (sv (sv (sv (sv (sv (sv r3.2 8 6 (x1 : Int32).toNatClampNeg ((r2.2.1 8 6 (x1 : Int32).toNatClampNeg) - (2 + r3.1))) 8 16 (x1 : Int32).toNatClampNeg 0) 8 17 (x1 : Int32).toNatClampNeg (vp_nar .boolean 0)) 8 9 (x1 : Int32).toNatClampNeg 0) 8 13 (x1 : Int32).toNatClampNeg 0) 8 15 (x1 : Int32).toNatClampNeg ((r3.2.1 8 15 (x1 : Int32).toNatClampNeg) + 1))))))))))))))) else (some (0, r2.2)))))
set_option maxRecDepth 100000 in
set_option maxHeartbeats 4000000 in
theorem b_X4_grind_53 (C0 : Cx p l s m args meth c cX4_grind 2 RX4 D cy n0) (hR : meth.sig.returnType = (some .int)) (σ : Sg) (x1 : Int32) (s0 : Int32) (H : Heap) (locs : List Loc) (ls : Array Slot) (hh : Hp D cy n0 ad nT nO s σ H locs) (hl : lv_has ls 2 [(0, .ref (ad 7 0)), (1, .int x1)]) : Sm (Qr below args s D cy n0 ad nT nO vI 0 0) (f_X4_grind_53 σ x1 s0) p l e rmX4_grind s m args below meth c H locs 0 0 (F0 m 53 ls [.int s0, .ref (ad 7 0)]) := by
  unfold f_X4_grind_53
  refine s_V (As := [.int s0]) (rest := []) C0 hh (c_X4_isWrong C0.2.2.2.2.2.2 _ s0) (qc51 C0.1.2.2.2.2 ⟨Nat.le_of_ble_eq_true rfl, Nat.le_of_ble_eq_true rfl⟩) (rl_b (by decide)) rfl rfl rfl hl.1 rfl (lv_room (Nat.le_of_ble_eq_true rfl)) dX4_grind_53 ⟨Nat.le_of_ble_eq_true rfl, Nat.le_of_ble_eq_true rfl⟩ (fun r2 H locs hor2 hh => ?_)
  refine s_if_eq (tgt := 61) C0 dX4_grind_56 (by decide) (fun _ => ?_) (fun _ => ?_)
  · refine s_aload_n C0 dX4_grind_61 rfl (lv_at hl 0 rfl) ?_
    refine s_get (v := .ref (ad 8 6)) C0 hh (rl_b (by decide)) rfl (T := TX4) (N := 28) rfl hinX4 (by decide) w39 rfl dX4_grind_62 ?_
    refine s_iload_n C0 dX4_grind_65 rfl (lv_at hl 1 rfl) ?_
    refine s_dup2 C0 dX4_grind_66 rfl rfl ?_
    refine s_iald (g := (r2.2.1 8 6)) C0 hh rfl (rl_b (by decide)) (fun _ => rfl) (t0 := 1) rfl dX4_grind_67 ?_
    refine s_iconst (v := 2) C0 dX4_grind_68 (by decide) ?_
    refine s_aload_n C0 dX4_grind_69 rfl (lv_at hl 0 rfl) ?_
    refine s_iload_n C0 dX4_grind_70 rfl (lv_at hl 1 rfl) ?_
    refine s_V (As := [.int x1]) (rest := [.int 2, .int (r2.2.1 8 6 (x1 : Int32).toNatClampNeg), .int x1, .ref (ad 8 6)]) C0 hh (c_X4_depth C0.2.2.2.2.2.2 _ x1) (qc54 C0.1.2.2.2.2 ⟨Nat.le_of_ble_eq_true rfl, Nat.le_of_ble_eq_true rfl⟩) (rl_b (by decide)) rfl rfl rfl hl.1 rfl (lv_room (Nat.le_of_ble_eq_true rfl)) dX4_grind_71 ⟨Nat.le_of_ble_eq_true rfl, Nat.le_of_ble_eq_true rfl⟩ (fun r3 H locs hor3 hh => ?_)
    refine s_iadd C0 dX4_grind_74 ?_
    refine s_isub C0 dX4_grind_75 ?_
    refine s_iast C0 hh (rl_b (by decide)) (fun _ => rfl) (t0 := 1) rfl (by decide) (by decide) (by decide) dX4_grind_76 (fun H locs hh => ?_)
    refine s_aload_n C0 dX4_grind_77 rfl (lv_at hl 0 rfl) ?_
    refine s_get (v := .ref (ad 8 16)) C0 hh (rl_b (by decide)) rfl (T := TX4) (N := 28) rfl hinX4 (by decide) w49 rfl dX4_grind_78 ?_
    refine s_iload_n C0 dX4_grind_81 rfl (lv_at hl 1 rfl) ?_
    refine s_iconst (v := 0) C0 dX4_grind_82 (by decide) ?_
    refine s_iast C0 hh (rl_b (by decide)) (fun _ => rfl) (t0 := 1) rfl (by decide) (by decide) (by decide) dX4_grind_83 (fun H locs hh => ?_)
    refine s_aload_n C0 dX4_grind_84 rfl (lv_at hl 0 rfl) ?_
    refine s_get (v := .ref (ad 8 17)) C0 hh (rl_b (by decide)) rfl (T := TX4) (N := 28) rfl hinX4 (by decide) w51 rfl dX4_grind_85 ?_
    refine s_iload_n C0 dX4_grind_88 rfl (lv_at hl 1 rfl) ?_
    refine s_iconst (v := 0) C0 dX4_grind_89 (by decide) ?_
    refine s_zast C0 hh (rl_b (by decide)) (fun _ => rfl) (t0 := 2) rfl (by decide) (by decide) (by decide) dX4_grind_90 (fun H locs hh => ?_)
    refine s_aload_n C0 dX4_grind_91 rfl (lv_at hl 0 rfl) ?_
    refine s_get (v := .ref (ad 8 9)) C0 hh (rl_b (by decide)) rfl (T := TX4) (N := 28) rfl hinX4 (by decide) w42 rfl dX4_grind_92 ?_
    refine s_iload_n C0 dX4_grind_95 rfl (lv_at hl 1 rfl) ?_
    refine s_iconst (v := 0) C0 dX4_grind_96 (by decide) ?_
    refine s_iast C0 hh (rl_b (by decide)) (fun _ => rfl) (t0 := 1) rfl (by decide) (by decide) (by decide) dX4_grind_97 (fun H locs hh => ?_)
    refine s_aload_n C0 dX4_grind_98 rfl (lv_at hl 0 rfl) ?_
    refine s_get (v := .ref (ad 8 13)) C0 hh (rl_b (by decide)) rfl (T := TX4) (N := 28) rfl hinX4 (by decide) w46 rfl dX4_grind_99 ?_
    refine s_iload_n C0 dX4_grind_102 rfl (lv_at hl 1 rfl) ?_
    refine s_iconst (v := 0) C0 dX4_grind_103 (by decide) ?_
    refine s_iast C0 hh (rl_b (by decide)) (fun _ => rfl) (t0 := 1) rfl (by decide) (by decide) (by decide) dX4_grind_104 (fun H locs hh => ?_)
    refine s_aload_n C0 dX4_grind_105 rfl (lv_at hl 0 rfl) ?_
    refine s_get (v := .ref (ad 8 15)) C0 hh (rl_b (by decide)) rfl (T := TX4) (N := 28) rfl hinX4 (by decide) w48 rfl dX4_grind_106 ?_
    refine s_iload_n C0 dX4_grind_109 rfl (lv_at hl 1 rfl) ?_
    refine s_dup2 C0 dX4_grind_110 rfl rfl ?_
    refine s_iald (g := (r3.2.1 8 15)) C0 hh rfl (rl_b (by decide)) (fun _ => rfl) (t0 := 1) rfl dX4_grind_111 ?_
    refine s_iconst (v := 1) C0 dX4_grind_112 (by decide) ?_
    refine s_iadd C0 dX4_grind_113 ?_
    refine s_iast C0 hh (rl_b (by decide)) (fun _ => rfl) (t0 := 1) rfl (by decide) (by decide) (by decide) dX4_grind_114 (fun H locs hh => ?_)
    refine s_aload_n C0 dX4_grind_115 rfl (lv_at hl 0 rfl) ?_
    refine s_get (v := .ref (ad 8 6)) C0 hh (rl_b (by decide)) rfl (T := TX4) (N := 28) rfl hinX4 (by decide) w39 rfl dX4_grind_116 ?_
    refine s_iload_n C0 dX4_grind_119 rfl (lv_at hl 1 rfl) ?_
    refine s_iald (g := ((sv r3.2 8 6 (x1 : Int32).toNatClampNeg ((r2.2.1 8 6 (x1 : Int32).toNatClampNeg) - (2 + r3.1))).1 8 6)) C0 hh rfl (rl_b (by decide)) (fun _ => rfl) (t0 := 1) rfl dX4_grind_120 ?_
    exact s_iret C0 hh hR rfl (Nat.le_of_ble_eq_true rfl) (Nat.le_of_ble_eq_true rfl) dX4_grind_121
  · refine s_iconst (v := 0) C0 dX4_grind_59 (by decide) ?_
    exact s_iret C0 hh hR rfl (Nat.le_of_ble_eq_true rfl) (Nat.le_of_ble_eq_true rfl) dX4_grind_60
def f_X4_grind_48 (σ : Sg) (x1 : Int32) : Option (Int32 × Sg) :=
  (f_X4_grind_53 σ x1 2)
set_option maxRecDepth 100000 in
set_option maxHeartbeats 4000000 in
theorem b_X4_grind_48 (C0 : Cx p l s m args meth c cX4_grind 2 RX4 D cy n0) (hR : meth.sig.returnType = (some .int)) (σ : Sg) (x1 : Int32) (H : Heap) (locs : List Loc) (ls : Array Slot) (hh : Hp D cy n0 ad nT nO s σ H locs) (hl : lv_has ls 2 [(0, .ref (ad 7 0)), (1, .int x1)]) : Sm (Qr below args s D cy n0 ad nT nO vI 0 0) (f_X4_grind_48 σ x1) p l e rmX4_grind s m args below meth c H locs 0 0 (F0 m 48 ls [.ref (ad 7 0)]) := by
  unfold f_X4_grind_48
  refine s_iconst (v := 2) C0 dX4_grind_48 (by decide) ?_
  refine s_goto (tgt := 53) C0 dX4_grind_49 (by decide) ?_
  exact b_X4_grind_53 C0 hR σ x1 2 _ _ _ hh (lv_sub hl [0, 1] rfl)
def f_X4_grind_0 (σ : Sg) (x1 : Int32) : Option (Int32 × Sg) :=
  ((f_X4_isNone σ x1).bind (fun r1 => (if (r1.1 : Int32) = (0 : Int32) then (if (x1 : Int32) < 0 ∨ 8 ≤ (x1 : Int32).toNatClampNeg then none else (if ((r1.2.1 8 4 (x1 : Int32).toNatClampNeg) : Int32) = (115 : Int32) then (if (x1 : Int32) < 0 ∨ 8 ≤ (x1 : Int32).toNatClampNeg then none else (if ((r1.2.1 8 16 (x1 : Int32).toNatClampNeg) : Int32) = (0 : Int32) then (f_X4_grind_48 r1.2 x1) else (if (x1 : Int32) < 0 ∨ 8 ≤ (x1 : Int32).toNatClampNeg then none else ((f_X4_depth r1.2 x1).bind (fun r4 => (if (20 : Int32) ≤ ((((r1.2.1 8 6 (x1 : Int32).toNatClampNeg) - 2) - r4.1) : Int32) then (f_X4_grind_53 r4.2 x1 0) else (f_X4_grind_48 r4.2 x1))))))) else (f_X4_grind_48 r1.2 x1))) else (some (0, r1.2)))))
set_option maxRecDepth 100000 in
set_option maxHeartbeats 4000000 in
theorem b_X4_grind_0 (C0 : Cx p l s m args meth c cX4_grind 2 RX4 D cy n0) (hR : meth.sig.returnType = (some .int)) (σ : Sg) (x1 : Int32) (H : Heap) (locs : List Loc) (ls : Array Slot) (hh : Hp D cy n0 ad nT nO s σ H locs) (hl : lv_has ls 2 [(0, .ref (ad 7 0)), (1, .int x1)]) : Sm (Qr below args s D cy n0 ad nT nO vI 0 0) (f_X4_grind_0 σ x1) p l e rmX4_grind s m args below meth c H locs 0 0 (F0 m 0 ls []) := by
  unfold f_X4_grind_0
  refine s_aload_n C0 dX4_grind_0 rfl (lv_at hl 0 rfl) ?_
  refine s_iload_n C0 dX4_grind_1 rfl (lv_at hl 1 rfl) ?_
  refine s_V (As := [.int x1]) (rest := []) C0 hh (c_X4_isNone C0.2.2.2.2.2.2 _ x1) (qc56 C0.1.2.2.2.2 ⟨Nat.le_of_ble_eq_true rfl, Nat.le_of_ble_eq_true rfl⟩) (rl_b (by decide)) rfl rfl rfl hl.1 rfl (lv_room (Nat.le_of_ble_eq_true rfl)) dX4_grind_2 ⟨Nat.le_of_ble_eq_true rfl, Nat.le_of_ble_eq_true rfl⟩ (fun r1 H locs hor1 hh => ?_)
  refine s_if_ne (tgt := 59) C0 dX4_grind_5 (by decide) (fun _ => ?_) (fun _ => ?_)
  · refine s_iconst (v := 0) C0 dX4_grind_59 (by decide) ?_
    exact s_iret C0 hh hR rfl (Nat.le_of_ble_eq_true rfl) (Nat.le_of_ble_eq_true rfl) dX4_grind_60
  · refine s_aload_n C0 dX4_grind_8 rfl (lv_at hl 0 rfl) ?_
    refine s_aload_n C0 dX4_grind_9 rfl (lv_at hl 0 rfl) ?_
    refine s_get (v := .ref (ad 8 4)) C0 hh (rl_b (by decide)) rfl (T := TX4) (N := 28) rfl hinX4 (by decide) w37 rfl dX4_grind_10 ?_
    refine s_iload_n C0 dX4_grind_13 rfl (lv_at hl 1 rfl) ?_
    refine s_cald (g := (r1.2.1 8 4)) C0 hh rfl (rl_b (by decide)) (fun _ => rfl) (t0 := 0) rfl dX4_grind_14 ?_
    refine s_bipush (v := 115) C0 dX4_grind_15 (by decide) ?_
    refine s_icmp_ne (tgt := 48) C0 dX4_grind_17 (by decide) (fun _ => ?_) (fun _ => ?_)
    · exact b_X4_grind_48 C0 hR r1.2 x1 _ _ _ hh (lv_sub hl [0, 1] rfl)
    · refine s_aload_n C0 dX4_grind_20 rfl (lv_at hl 0 rfl) ?_
      refine s_get (v := .ref (ad 8 16)) C0 hh (rl_b (by decide)) rfl (T := TX4) (N := 28) rfl hinX4 (by decide) w49 rfl dX4_grind_21 ?_
      refine s_iload_n C0 dX4_grind_24 rfl (lv_at hl 1 rfl) ?_
      refine s_iald (g := (r1.2.1 8 16)) C0 hh rfl (rl_b (by decide)) (fun _ => rfl) (t0 := 1) rfl dX4_grind_25 ?_
      refine s_if_eq (tgt := 48) C0 dX4_grind_26 (by decide) (fun _ => ?_) (fun _ => ?_)
      · exact b_X4_grind_48 C0 hR r1.2 x1 _ _ _ hh (lv_sub hl [0, 1] rfl)
      · refine s_aload_n C0 dX4_grind_29 rfl (lv_at hl 0 rfl) ?_
        refine s_get (v := .ref (ad 8 6)) C0 hh (rl_b (by decide)) rfl (T := TX4) (N := 28) rfl hinX4 (by decide) w39 rfl dX4_grind_30 ?_
        refine s_iload_n C0 dX4_grind_33 rfl (lv_at hl 1 rfl) ?_
        refine s_iald (g := (r1.2.1 8 6)) C0 hh rfl (rl_b (by decide)) (fun _ => rfl) (t0 := 1) rfl dX4_grind_34 ?_
        refine s_iconst (v := 2) C0 dX4_grind_35 (by decide) ?_
        refine s_isub C0 dX4_grind_36 ?_
        refine s_aload_n C0 dX4_grind_37 rfl (lv_at hl 0 rfl) ?_
        refine s_iload_n C0 dX4_grind_38 rfl (lv_at hl 1 rfl) ?_
        refine s_V (As := [.int x1]) (rest := [.int ((r1.2.1 8 6 (x1 : Int32).toNatClampNeg) - 2), .ref (ad 7 0)]) C0 hh (c_X4_depth C0.2.2.2.2.2.2 _ x1) (qc54 C0.1.2.2.2.2 ⟨Nat.le_of_ble_eq_true rfl, Nat.le_of_ble_eq_true rfl⟩) (rl_b (by decide)) rfl rfl rfl hl.1 rfl (lv_room (Nat.le_of_ble_eq_true rfl)) dX4_grind_39 ⟨Nat.le_of_ble_eq_true rfl, Nat.le_of_ble_eq_true rfl⟩ (fun r4 H locs hor4 hh => ?_)
        refine s_isub C0 dX4_grind_42 ?_
        refine s_bipush (v := 20) C0 dX4_grind_43 (by decide) ?_
        refine s_icmp_ge (tgt := 52) C0 dX4_grind_45 (by decide) (fun _ => ?_) (fun _ => ?_)
        · refine s_iconst (v := 0) C0 dX4_grind_52 (by decide) ?_
          exact b_X4_grind_53 C0 hR r4.2 x1 0 _ _ _ hh (lv_sub hl [0, 1] rfl)
        · exact b_X4_grind_48 C0 hR r4.2 x1 _ _ _ hh (lv_sub hl [0, 1] rfl)
def f_X4_grind (σ : Sg) (x1 : Int32) : Option (Int32 × Sg) := f_X4_grind_0 σ x1
set_option maxRecDepth 100000 in
set_option maxHeartbeats 4000000 in
theorem c_X4_grind (hst : l.stackTraces = false) (σ : Sg) (x1 : Int32) : Ct l yX4_grind (wm yX4_grind cX4_grind 2 (some .int)) rmX4_grind 0 0 vI [.ref (ad 7 0), .int x1] D cy n0 ad nT nO  σ (f_X4_grind σ x1) := by
  intro r0 h0
  refine Met.ofW (cc := cX4_grind) (maxL := 2) (ret := (some .int)) (by decide +kernel) rfl ?_
  intro p e s m args below meth c s₁ B hml hv
  obtain ⟨C0, hh, hR, rfl⟩ := ent B hml hst hv
  rw [lg_entry_eq]
  have hl := lv_entry ([.ref (ad 7 0), .int x1]) (n := 2) (Nat.le_of_ble_eq_true rfl)
  generalize (lg_sl ([.ref (ad 7 0), .int x1]) ++ List.replicate (2 - (lg_sl ([.ref (ad 7 0), .int x1])).length) Slot.unset).toArray = ls at hl ⊢
  exact b_X4_grind_0 C0 hR σ x1 _ _ _ hh hl r0 h0

def rmX4_recuts : Room := { frames := 2, cells := 0, slots := 0, locals := 43 }
def f_X4_recuts_0 (σ : Sg) (x1 : Int32) : Option (Int32 × Sg) :=
  ((f_X4_isNone σ x1).bind (fun r1 => (if (r1.1 : Int32) = (0 : Int32) then (if (x1 : Int32) < 0 ∨ 8 ≤ (x1 : Int32).toNatClampNeg then none else (some ((r1.2.1 8 15 (x1 : Int32).toNatClampNeg), r1.2))) else (some (0, r1.2)))))
set_option maxRecDepth 100000 in
set_option maxHeartbeats 4000000 in
theorem b_X4_recuts_0 (C0 : Cx p l s m args meth c cX4_recuts 2 RX4 D cy n0) (hR : meth.sig.returnType = (some .int)) (σ : Sg) (x1 : Int32) (H : Heap) (locs : List Loc) (ls : Array Slot) (hh : Hp D cy n0 ad nT nO s σ H locs) (hl : lv_has ls 2 [(0, .ref (ad 7 0)), (1, .int x1)]) : Sm (Qr below args s D cy n0 ad nT nO vI 0 0) (f_X4_recuts_0 σ x1) p l e rmX4_recuts s m args below meth c H locs 0 0 (F0 m 0 ls []) := by
  unfold f_X4_recuts_0
  refine s_aload_n C0 dX4_recuts_0 rfl (lv_at hl 0 rfl) ?_
  refine s_iload_n C0 dX4_recuts_1 rfl (lv_at hl 1 rfl) ?_
  refine s_V (As := [.int x1]) (rest := []) C0 hh (c_X4_isNone C0.2.2.2.2.2.2 _ x1) (qc56 C0.1.2.2.2.2 ⟨Nat.le_of_ble_eq_true rfl, Nat.le_of_ble_eq_true rfl⟩) (rl_b (by decide)) rfl rfl rfl hl.1 rfl (lv_room (Nat.le_of_ble_eq_true rfl)) dX4_recuts_2 ⟨Nat.le_of_ble_eq_true rfl, Nat.le_of_ble_eq_true rfl⟩ (fun r1 H locs hor1 hh => ?_)
  refine s_if_eq (tgt := 12) C0 dX4_recuts_5 (by decide) (fun _ => ?_) (fun _ => ?_)
  · refine s_aload_n C0 dX4_recuts_12 rfl (lv_at hl 0 rfl) ?_
    refine s_get (v := .ref (ad 8 15)) C0 hh (rl_b (by decide)) rfl (T := TX4) (N := 28) rfl hinX4 (by decide) w48 rfl dX4_recuts_13 ?_
    refine s_iload_n C0 dX4_recuts_16 rfl (lv_at hl 1 rfl) ?_
    refine s_iald (g := (r1.2.1 8 15)) C0 hh rfl (rl_b (by decide)) (fun _ => rfl) (t0 := 1) rfl dX4_recuts_17 ?_
    exact s_iret C0 hh hR rfl (Nat.le_of_ble_eq_true rfl) (Nat.le_of_ble_eq_true rfl) dX4_recuts_18
  · refine s_iconst (v := 0) C0 dX4_recuts_8 (by decide) ?_
    refine s_goto (tgt := 18) C0 dX4_recuts_9 (by decide) ?_
    exact s_iret C0 hh hR rfl (Nat.le_of_ble_eq_true rfl) (Nat.le_of_ble_eq_true rfl) dX4_recuts_18
def f_X4_recuts (σ : Sg) (x1 : Int32) : Option (Int32 × Sg) := f_X4_recuts_0 σ x1
set_option maxRecDepth 100000 in
set_option maxHeartbeats 4000000 in
theorem c_X4_recuts (hst : l.stackTraces = false) (σ : Sg) (x1 : Int32) : Ct l yX4_recuts (wm yX4_recuts cX4_recuts 2 (some .int)) rmX4_recuts 0 0 vI [.ref (ad 7 0), .int x1] D cy n0 ad nT nO  σ (f_X4_recuts σ x1) := by
  intro r0 h0
  refine Met.ofW (cc := cX4_recuts) (maxL := 2) (ret := (some .int)) (by decide +kernel) rfl ?_
  intro p e s m args below meth c s₁ B hml hv
  obtain ⟨C0, hh, hR, rfl⟩ := ent B hml hst hv
  rw [lg_entry_eq]
  have hl := lv_entry ([.ref (ad 7 0), .int x1]) (n := 2) (Nat.le_of_ble_eq_true rfl)
  generalize (lg_sl ([.ref (ad 7 0), .int x1]) ++ List.replicate (2 - (lg_sl ([.ref (ad 7 0), .int x1])).length) Slot.unset).toArray = ls at hl ⊢
  exact b_X4_recuts_0 C0 hR σ x1 _ _ _ hh hl r0 h0

def rmX4_recutsLeft : Room := { frames := 2, cells := 0, slots := 0, locals := 43 }
def g_X4_recutsLeft_68 (rec68 : Sg → Int32 → Int32 → Int32 → Int32 → Int32 → Option (Int32 × Sg)) (σ : Sg) (x1 : Int32) (x2 : Int32) (x3 : Int32) (x4 : Int32) (x5 : Int32) : Option (Int32 × Sg) :=
  (if (((x4 - 2) - x3) : Int32) < (20 : Int32) then (some (x5, σ)) else (if (x1 : Int32) < 0 ∨ 8 ≤ (x1 : Int32).toNatClampNeg then none else ((f_X4_depthOf σ (σ.1 8 2 (x1 : Int32).toNatClampNeg) x2).bind (fun r5 => (rec68 r5.2 x1 x2 r5.1 (x4 - (2 + x3)) (x5 + 1))))))
def f_X4_recutsLeft_68 : Nat → Sg → Int32 → Int32 → Int32 → Int32 → Int32 → Option (Int32 × Sg)
  | 0 => fun _ _ _ _ _ _ => none
  | n + 1 => fun σ x1 x2 x3 x4 x5 => g_X4_recutsLeft_68 (f_X4_recutsLeft_68 n) σ x1 x2 x3 x4 x5
set_option maxRecDepth 100000 in
set_option maxHeartbeats 4000000 in
theorem a_X4_recutsLeft_68 (C0 : Cx p l s m args meth c cX4_recutsLeft 6 RX4 D cy n0) (hR : meth.sig.returnType = (some .int)) (rec68 : Sg → Int32 → Int32 → Int32 → Int32 → Int32 → Option (Int32 × Sg)) (hrec68 : ∀ (σ : Sg) (x1 : Int32) (x2 : Int32) (x3 : Int32) (x4 : Int32) (x5 : Int32) (H : Heap) (locs : List Loc) (ls : Array Slot), Hp D cy n0 ad nT nO s σ H locs → lv_has ls 6 [(0, .ref (ad 7 0)), (1, .int x1), (2, .int x2), (3, .int x3), (4, .int x4), (5, .int x5)] → Sm (Qr below args s D cy n0 ad nT nO vI 0 0) (rec68 σ x1 x2 x3 x4 x5) p l e rmX4_recutsLeft s m args below meth c H locs 0 0 (F0 m 68 ls [])) (σ : Sg) (x1 : Int32) (x2 : Int32) (x3 : Int32) (x4 : Int32) (x5 : Int32) (H : Heap) (locs : List Loc) (ls : Array Slot) (hh : Hp D cy n0 ad nT nO s σ H locs) (hl : lv_has ls 6 [(0, .ref (ad 7 0)), (1, .int x1), (2, .int x2), (3, .int x3), (4, .int x4), (5, .int x5)]) : Sm (Qr below args s D cy n0 ad nT nO vI 0 0) (g_X4_recutsLeft_68 rec68 σ x1 x2 x3 x4 x5) p l e rmX4_recutsLeft s m args below meth c H locs 0 0 (F0 m 68 ls []) := by
  unfold g_X4_recutsLeft_68
  refine s_iload C0 dX4_recutsLeft_68 (lv_at hl 4 rfl) ?_
  refine s_iconst (v := 2) C0 dX4_recutsLeft_70 (by decide) ?_
  refine s_isub C0 dX4_recutsLeft_71 ?_
  refine s_iload_n C0 dX4_recutsLeft_72 rfl (lv_at hl 3 rfl) ?_
  refine s_isub C0 dX4_recutsLeft_73 ?_
  refine s_bipush (v := 20) C0 dX4_recutsLeft_74 (by decide) ?_
  refine s_icmp_lt (tgt := 104) C0 dX4_recutsLeft_76 (by decide) (fun _ => ?_) (fun _ => ?_)
  · refine s_iload C0 dX4_recutsLeft_104 (lv_at hl 5 rfl) ?_
    exact s_iret C0 hh hR rfl (Nat.le_of_ble_eq_true rfl) (Nat.le_of_ble_eq_true rfl) dX4_recutsLeft_106
  · refine s_iload C0 dX4_recutsLeft_79 (lv_at hl 4 rfl) ?_
    refine s_iconst (v := 2) C0 dX4_recutsLeft_81 (by decide) ?_
    refine s_iload_n C0 dX4_recutsLeft_82 rfl (lv_at hl 3 rfl) ?_
    refine s_iadd C0 dX4_recutsLeft_83 ?_
    refine s_isub C0 dX4_recutsLeft_84 ?_
    refine s_istore (lv' := [(4, .int (x4 - (2 + x3))), (0, .ref (ad 7 0)), (1, .int x1), (2, .int x2), (3, .int x3), (5, .int x5)]) C0 dX4_recutsLeft_85 hl (by decide) rfl (fun ls hl => ?_)
    refine s_iinc (k := 5) (v := (x5 + 1)) (lv' := [(5, .int (x5 + 1)), (4, .int (x4 - (2 + x3))), (0, .ref (ad 7 0)), (1, .int x1), (2, .int x2), (3, .int x3)]) C0 dX4_recutsLeft_87 hl rfl rfl (by decide) rfl (fun ls hl => ?_)
    refine s_aload_n C0 dX4_recutsLeft_90 rfl (lv_at hl 2 rfl) ?_
    refine s_get (v := .ref (ad 8 2)) C0 hh (rl_b (by decide)) rfl (T := TX4) (N := 28) rfl hinX4 (by decide) w35 rfl dX4_recutsLeft_91 ?_
    refine s_iload_n C0 dX4_recutsLeft_94 rfl (lv_at hl 3 rfl) ?_
    refine s_cald (g := (σ.1 8 2)) C0 hh rfl (rl_b (by decide)) (fun _ => rfl) (t0 := 0) rfl dX4_recutsLeft_95 ?_
    refine s_iload_n C0 dX4_recutsLeft_96 rfl (lv_at hl 4 rfl) ?_
    refine s_S (As := [.int (σ.1 8 2 (x1 : Int32).toNatClampNeg), .int x2]) (rest := []) C0 hh (c_X4_depthOf C0.2.2.2.2.2.2 _ (σ.1 8 2 (x1 : Int32).toNatClampNeg) x2) (qc52 C0.1.2.2.2.2 ⟨Nat.le_of_ble_eq_true rfl, Nat.le_of_ble_eq_true rfl⟩) rfl hl.1 rfl (lv_room (Nat.le_of_ble_eq_true rfl)) dX4_recutsLeft_97 ⟨Nat.le_of_ble_eq_true rfl, Nat.le_of_ble_eq_true rfl⟩ (fun r5 H locs hor5 hh => ?_)
    refine s_istore_n (lv' := [(3, .int r5.1), (5, .int (x5 + 1)), (4, .int (x4 - (2 + x3))), (0, .ref (ad 7 0)), (1, .int x1), (2, .int x2)]) C0 dX4_recutsLeft_100 rfl hl (by decide) rfl (fun ls hl => ?_)
    refine s_goto (tgt := 68) C0 dX4_recutsLeft_101 (by decide) ?_
    exact hrec68 r5.2 x1 x2 r5.1 (x4 - (2 + x3)) (x5 + 1) _ _ _ hh (lv_sub hl [3, 4, 5, 0, 2, 1] rfl)
theorem b_X4_recutsLeft_68 (C0 : Cx p l s m args meth c cX4_recutsLeft 6 RX4 D cy n0) (hR : meth.sig.returnType = (some .int)) : ∀ (n : Nat) (σ : Sg) (x1 : Int32) (x2 : Int32) (x3 : Int32) (x4 : Int32) (x5 : Int32) (H : Heap) (locs : List Loc) (ls : Array Slot) (hh : Hp D cy n0 ad nT nO s σ H locs) (hl : lv_has ls 6 [(0, .ref (ad 7 0)), (1, .int x1), (2, .int x2), (3, .int x3), (4, .int x4), (5, .int x5)]), Sm (Qr below args s D cy n0 ad nT nO vI 0 0) (f_X4_recutsLeft_68 n σ x1 x2 x3 x4 x5) p l e rmX4_recutsLeft s m args below meth c H locs 0 0 (F0 m 68 ls []) := by
  intro n
  induction n with
  | zero => intros; intro r h; cases h
  | succ n ih => intro σ x1 x2 x3 x4 x5 H locs ls hh hl; exact a_X4_recutsLeft_68 C0 hR (f_X4_recutsLeft_68 n) ih σ x1 x2 x3 x4 x5 H locs ls hh hl
def f_X4_recutsLeft_56 (σ : Sg) (x1 : Int32) (x2 : Int32) (s0 : Int32) : Option (Int32 × Sg) :=
  (if (x1 : Int32) < 0 ∨ 8 ≤ (x1 : Int32).toNatClampNeg then none else (f_X4_recutsLeft_68 70 σ x1 x2 s0 (σ.1 8 6 (x1 : Int32).toNatClampNeg) 0))
set_option maxRecDepth 100000 in
set_option maxHeartbeats 4000000 in
theorem b_X4_recutsLeft_56 (C0 : Cx p l s m args meth c cX4_recutsLeft 6 RX4 D cy n0) (hR : meth.sig.returnType = (some .int)) (σ : Sg) (x1 : Int32) (x2 : Int32) (s0 : Int32) (H : Heap) (locs : List Loc) (ls : Array Slot) (hh : Hp D cy n0 ad nT nO s σ H locs) (hl : lv_has ls 6 [(0, .ref (ad 7 0)), (1, .int x1), (2, .int x2)]) : Sm (Qr below args s D cy n0 ad nT nO vI 0 0) (f_X4_recutsLeft_56 σ x1 x2 s0) p l e rmX4_recutsLeft s m args below meth c H locs 0 0 (F0 m 56 ls [.int s0]) := by
  unfold f_X4_recutsLeft_56
  refine s_istore_n (lv' := [(3, .int s0), (0, .ref (ad 7 0)), (1, .int x1), (2, .int x2)]) C0 dX4_recutsLeft_56 rfl hl (by decide) rfl (fun ls hl => ?_)
  refine s_aload_n C0 dX4_recutsLeft_57 rfl (lv_at hl 1 rfl) ?_
  refine s_get (v := .ref (ad 8 6)) C0 hh (rl_b (by decide)) rfl (T := TX4) (N := 28) rfl hinX4 (by decide) w39 rfl dX4_recutsLeft_58 ?_
  refine s_iload_n C0 dX4_recutsLeft_61 rfl (lv_at hl 2 rfl) ?_
  refine s_iald (g := (σ.1 8 6)) C0 hh rfl (rl_b (by decide)) (fun _ => rfl) (t0 := 1) rfl dX4_recutsLeft_62 ?_
  refine s_istore (lv' := [(4, .int (σ.1 8 6 (x1 : Int32).toNatClampNeg)), (3, .int s0), (0, .ref (ad 7 0)), (1, .int x1), (2, .int x2)]) C0 dX4_recutsLeft_63 hl (by decide) rfl (fun ls hl => ?_)
  refine s_iconst (v := 0) C0 dX4_recutsLeft_65 (by decide) ?_
  refine s_istore (lv' := [(5, .int 0), (4, .int (σ.1 8 6 (x1 : Int32).toNatClampNeg)), (3, .int s0), (0, .ref (ad 7 0)), (1, .int x1), (2, .int x2)]) C0 dX4_recutsLeft_66 hl (by decide) rfl (fun ls hl => ?_)
  exact b_X4_recutsLeft_68 C0 hR 70 σ x1 x2 s0 (σ.1 8 6 (x1 : Int32).toNatClampNeg) 0 _ _ _ hh (lv_sub hl [3, 4, 5, 2, 1, 0] rfl)
def f_X4_recutsLeft_21 (σ : Sg) (x1 : Int32) (x2 : Int32) (s0 : Int32) : Option (Int32 × Sg) :=
  ((f_X4_isWrong σ s0).bind (fun r3 => (if (r3.1 : Int32) = (0 : Int32) then (if (x1 : Int32) < 0 ∨ 8 ≤ (x1 : Int32).toNatClampNeg then none else (if ((r3.2.1 8 16 (x1 : Int32).toNatClampNeg) : Int32) = (0 : Int32) then (if (x1 : Int32) < 0 ∨ 8 ≤ (x1 : Int32).toNatClampNeg then none else ((f_X4_depthOf r3.2 (r3.2.1 8 2 (x1 : Int32).toNatClampNeg) x2).bind (fun r6 => (f_X4_recutsLeft_56 r6.2 x1 x2 r6.1)))) else ((f_X4_depth r3.2 x1).bind (fun r4 => (f_X4_recutsLeft_56 r4.2 x1 x2 r4.1))))) else (some (0, r3.2)))))
set_option maxRecDepth 100000 in
set_option maxHeartbeats 4000000 in
theorem b_X4_recutsLeft_21 (C0 : Cx p l s m args meth c cX4_recutsLeft 6 RX4 D cy n0) (hR : meth.sig.returnType = (some .int)) (σ : Sg) (x1 : Int32) (x2 : Int32) (s0 : Int32) (H : Heap) (locs : List Loc) (ls : Array Slot) (hh : Hp D cy n0 ad nT nO s σ H locs) (hl : lv_has ls 6 [(0, .ref (ad 7 0)), (1, .int x1), (2, .int x2)]) : Sm (Qr below args s D cy n0 ad nT nO vI 0 0) (f_X4_recutsLeft_21 σ x1 x2 s0) p l e rmX4_recutsLeft s m args below meth c H locs 0 0 (F0 m 21 ls [.int s0, .ref (ad 7 0)]) := by
  unfold f_X4_recutsLeft_21
  refine s_V (As := [.int s0]) (rest := []) C0 hh (c_X4_isWrong C0.2.2.2.2.2.2 _ s0) (qc51 C0.1.2.2.2.2 ⟨Nat.le_of_ble_eq_true rfl, Nat.le_of_ble_eq_true rfl⟩) (rl_b (by decide)) rfl rfl rfl hl.1 rfl (lv_room (Nat.le_of_ble_eq_true rfl)) dX4_recutsLeft_21 ⟨Nat.le_of_ble_eq_true rfl, Nat.le_of_ble_eq_true rfl⟩ (fun r3 H locs hor3 hh => ?_)
  refine s_if_eq (tgt := 29) C0 dX4_recutsLeft_24 (by decide) (fun _ => ?_) (fun _ => ?_)
  · refine s_aload_n C0 dX4_recutsLeft_29 rfl (lv_at hl 0 rfl) ?_
    refine s_get (v := .ref (ad 8 16)) C0 hh (rl_b (by decide)) rfl (T := TX4) (N := 28) rfl hinX4 (by decide) w49 rfl dX4_recutsLeft_30 ?_
    refine s_iload_n C0 dX4_recutsLeft_33 rfl (lv_at hl 1 rfl) ?_
    refine s_iald (g := (r3.2.1 8 16)) C0 hh rfl (rl_b (by decide)) (fun _ => rfl) (t0 := 1) rfl dX4_recutsLeft_34 ?_
    refine s_if_ne (tgt := 51) C0 dX4_recutsLeft_35 (by decide) (fun _ => ?_) (fun _ => ?_)
    · refine s_aload_n C0 dX4_recutsLeft_51 rfl (lv_at hl 0 rfl) ?_
      refine s_iload_n C0 dX4_recutsLeft_52 rfl (lv_at hl 1 rfl) ?_
      refine s_V (As := [.int x1]) (rest := []) C0 hh (c_X4_depth C0.2.2.2.2.2.2 _ x1) (qc54 C0.1.2.2.2.2 ⟨Nat.le_of_ble_eq_true rfl, Nat.le_of_ble_eq_true rfl⟩) (rl_b (by decide)) rfl rfl rfl hl.1 rfl (lv_room (Nat.le_of_ble_eq_true rfl)) dX4_recutsLeft_53 ⟨Nat.le_of_ble_eq_true rfl, Nat.le_of_ble_eq_true rfl⟩ (fun r4 H locs hor4 hh => ?_)
      exact b_X4_recutsLeft_56 C0 hR r4.2 x1 x2 r4.1 _ _ _ hh (lv_sub hl [0, 1, 2] rfl)
    · refine s_aload_n C0 dX4_recutsLeft_38 rfl (lv_at hl 0 rfl) ?_
      refine s_get (v := .ref (ad 8 2)) C0 hh (rl_b (by decide)) rfl (T := TX4) (N := 28) rfl hinX4 (by decide) w35 rfl dX4_recutsLeft_39 ?_
      refine s_iload_n C0 dX4_recutsLeft_42 rfl (lv_at hl 1 rfl) ?_
      refine s_cald (g := (r3.2.1 8 2)) C0 hh rfl (rl_b (by decide)) (fun _ => rfl) (t0 := 0) rfl dX4_recutsLeft_43 ?_
      refine s_iload_n C0 dX4_recutsLeft_44 rfl (lv_at hl 2 rfl) ?_
      refine s_S (As := [.int (r3.2.1 8 2 (x1 : Int32).toNatClampNeg), .int x2]) (rest := []) C0 hh (c_X4_depthOf C0.2.2.2.2.2.2 _ (r3.2.1 8 2 (x1 : Int32).toNatClampNeg) x2) (qc52 C0.1.2.2.2.2 ⟨Nat.le_of_ble_eq_true rfl, Nat.le_of_ble_eq_true rfl⟩) rfl hl.1 rfl (lv_room (Nat.le_of_ble_eq_true rfl)) dX4_recutsLeft_45 ⟨Nat.le_of_ble_eq_true rfl, Nat.le_of_ble_eq_true rfl⟩ (fun r6 H locs hor6 hh => ?_)
      refine s_goto (tgt := 56) C0 dX4_recutsLeft_48 (by decide) ?_
      exact b_X4_recutsLeft_56 C0 hR r6.2 x1 x2 r6.1 _ _ _ hh (lv_sub hl [0, 1, 2] rfl)
  · refine s_iconst (v := 0) C0 dX4_recutsLeft_27 (by decide) ?_
    exact s_iret C0 hh hR rfl (Nat.le_of_ble_eq_true rfl) (Nat.le_of_ble_eq_true rfl) dX4_recutsLeft_28
def f_X4_recutsLeft_0 (σ : Sg) (x1 : Int32) (x2 : Int32) : Option (Int32 × Sg) :=
  ((f_X4_isNone σ x1).bind (fun r1 => (if (r1.1 : Int32) = (0 : Int32) then ((f_X4_isCut r1.2 x2).bind (fun r2 => (if (r2.1 : Int32) = (0 : Int32) then (f_X4_recutsLeft_21 r2.2 x1 x2 2) else (f_X4_recutsLeft_21 r2.2 x1 x2 0)))) else (some (0, r1.2)))))
set_option maxRecDepth 100000 in
set_option maxHeartbeats 4000000 in
theorem b_X4_recutsLeft_0 (C0 : Cx p l s m args meth c cX4_recutsLeft 6 RX4 D cy n0) (hR : meth.sig.returnType = (some .int)) (σ : Sg) (x1 : Int32) (x2 : Int32) (H : Heap) (locs : List Loc) (ls : Array Slot) (hh : Hp D cy n0 ad nT nO s σ H locs) (hl : lv_has ls 6 [(0, .ref (ad 7 0)), (1, .int x1), (2, .int x2)]) : Sm (Qr below args s D cy n0 ad nT nO vI 0 0) (f_X4_recutsLeft_0 σ x1 x2) p l e rmX4_recutsLeft s m args below meth c H locs 0 0 (F0 m 0 ls []) := by
  unfold f_X4_recutsLeft_0
  refine s_aload_n C0 dX4_recutsLeft_0 rfl (lv_at hl 0 rfl) ?_
  refine s_iload_n C0 dX4_recutsLeft_1 rfl (lv_at hl 1 rfl) ?_
  refine s_V (As := [.int x1]) (rest := []) C0 hh (c_X4_isNone C0.2.2.2.2.2.2 _ x1) (qc56 C0.1.2.2.2.2 ⟨Nat.le_of_ble_eq_true rfl, Nat.le_of_ble_eq_true rfl⟩) (rl_b (by decide)) rfl rfl rfl hl.1 rfl (lv_room (Nat.le_of_ble_eq_true rfl)) dX4_recutsLeft_2 ⟨Nat.le_of_ble_eq_true rfl, Nat.le_of_ble_eq_true rfl⟩ (fun r1 H locs hor1 hh => ?_)
  refine s_if_ne (tgt := 27) C0 dX4_recutsLeft_5 (by decide) (fun _ => ?_) (fun _ => ?_)
  · refine s_iconst (v := 0) C0 dX4_recutsLeft_27 (by decide) ?_
    exact s_iret C0 hh hR rfl (Nat.le_of_ble_eq_true rfl) (Nat.le_of_ble_eq_true rfl) dX4_recutsLeft_28
  · refine s_aload_n C0 dX4_recutsLeft_8 rfl (lv_at hl 0 rfl) ?_
    refine s_iload_n C0 dX4_recutsLeft_9 rfl (lv_at hl 2 rfl) ?_
    refine s_S (As := [.int x2]) (rest := [.ref (ad 7 0)]) C0 hh (c_X4_isCut C0.2.2.2.2.2.2 _ x2) (qc63 C0.1.2.2.2.2 ⟨Nat.le_of_ble_eq_true rfl, Nat.le_of_ble_eq_true rfl⟩) rfl hl.1 rfl (lv_room (Nat.le_of_ble_eq_true rfl)) dX4_recutsLeft_10 ⟨Nat.le_of_ble_eq_true rfl, Nat.le_of_ble_eq_true rfl⟩ (fun r2 H locs hor2 hh => ?_)
    refine s_if_eq (tgt := 20) C0 dX4_recutsLeft_13 (by decide) (fun _ => ?_) (fun _ => ?_)
    · refine s_iconst (v := 2) C0 dX4_recutsLeft_20 (by decide) ?_
      exact b_X4_recutsLeft_21 C0 hR r2.2 x1 x2 2 _ _ _ hh (lv_sub hl [0, 1, 2] rfl)
    · refine s_iconst (v := 0) C0 dX4_recutsLeft_16 (by decide) ?_
      refine s_goto (tgt := 21) C0 dX4_recutsLeft_17 (by decide) ?_
      exact b_X4_recutsLeft_21 C0 hR r2.2 x1 x2 0 _ _ _ hh (lv_sub hl [0, 1, 2] rfl)
def f_X4_recutsLeft (σ : Sg) (x1 : Int32) (x2 : Int32) : Option (Int32 × Sg) := f_X4_recutsLeft_0 σ x1 x2
set_option maxRecDepth 100000 in
set_option maxHeartbeats 4000000 in
theorem c_X4_recutsLeft (hst : l.stackTraces = false) (σ : Sg) (x1 : Int32) (x2 : Int32) : Ct l yX4_recutsLeft (wm yX4_recutsLeft cX4_recutsLeft 6 (some .int)) rmX4_recutsLeft 0 0 vI [.ref (ad 7 0), .int x1, .int x2] D cy n0 ad nT nO  σ (f_X4_recutsLeft σ x1 x2) := by
  intro r0 h0
  refine Met.ofW (cc := cX4_recutsLeft) (maxL := 6) (ret := (some .int)) (by decide +kernel) rfl ?_
  intro p e s m args below meth c s₁ B hml hv
  obtain ⟨C0, hh, hR, rfl⟩ := ent B hml hst hv
  rw [lg_entry_eq]
  have hl := lv_entry ([.ref (ad 7 0), .int x1, .int x2]) (n := 6) (Nat.le_of_ble_eq_true rfl)
  generalize (lg_sl ([.ref (ad 7 0), .int x1, .int x2]) ++ List.replicate (6 - (lg_sl ([.ref (ad 7 0), .int x1, .int x2])).length) Slot.unset).toArray = ls at hl ⊢
  exact b_X4_recutsLeft_0 C0 hR σ x1 x2 _ _ _ hh hl r0 h0

def rmX4_order : Room := { frames := 1, cells := 0, slots := 0, locals := 22 }
def f_X4_order_43 (σ : Sg) (x1 : Int32) (x2 : Int32) (x3 : Int32) (s0 : Int32) : Option (Int32 × Sg) :=
  ((f_X4_isWrong σ s0).bind (fun r2 => (if (r2.1 : Int32) = (0 : Int32) then (if ((r2.2.1 7 0 23) : Int32) < 0 ∨ 6 ≤ ((r2.2.1 7 0 23) : Int32).toNatClampNeg then none else (if ((r2.2.1 7 0 23) : Int32) < 0 ∨ 6 ≤ ((r2.2.1 7 0 23) : Int32).toNatClampNeg then none else (if ((r2.2.1 7 0 23) : Int32) < 0 ∨ 6 ≤ ((r2.2.1 7 0 23) : Int32).toNatClampNeg then none else (some ((((sv (sv (sv (sv r2.2 8 24 ((r2.2.1 7 0 23) : Int32).toNatClampNeg (vp_nar .char x1)) 8 25 ((r2.2.1 7 0 23) : Int32).toNatClampNeg (vp_nar .char x2)) 8 26 ((r2.2.1 7 0 23) : Int32).toNatClampNeg x3) 7 0 23 ((r2.2.1 7 0 23) + 1)).1 7 0 23) - 1), (sv (sv (sv (sv r2.2 8 24 ((r2.2.1 7 0 23) : Int32).toNatClampNeg (vp_nar .char x1)) 8 25 ((r2.2.1 7 0 23) : Int32).toNatClampNeg (vp_nar .char x2)) 8 26 ((r2.2.1 7 0 23) : Int32).toNatClampNeg x3) 7 0 23 ((r2.2.1 7 0 23) + 1))))))) else (some (0, r2.2)))))
set_option maxRecDepth 100000 in
set_option maxHeartbeats 4000000 in
theorem b_X4_order_43 (C0 : Cx p l s m args meth c cX4_order 4 RX4 D cy n0) (hR : meth.sig.returnType = (some .int)) (σ : Sg) (x1 : Int32) (x2 : Int32) (x3 : Int32) (s0 : Int32) (H : Heap) (locs : List Loc) (ls : Array Slot) (hh : Hp D cy n0 ad nT nO s σ H locs) (hl : lv_has ls 4 [(0, .ref (ad 7 0)), (1, .int x1), (2, .int x2), (3, .int x3)]) : Sm (Qr below args s D cy n0 ad nT nO vI 0 0) (f_X4_order_43 σ x1 x2 x3 s0) p l e rmX4_order s m args below meth c H locs 0 0 (F0 m 43 ls [.int s0, .ref (ad 7 0)]) := by
  unfold f_X4_order_43
  refine s_V (As := [.int s0]) (rest := []) C0 hh (c_X4_isWrong C0.2.2.2.2.2.2 _ s0) (qc51 C0.1.2.2.2.2 ⟨Nat.le_of_ble_eq_true rfl, Nat.le_of_ble_eq_true rfl⟩) (rl_b (by decide)) rfl rfl rfl hl.1 rfl (lv_room (Nat.le_of_ble_eq_true rfl)) dX4_order_43 ⟨Nat.le_of_ble_eq_true rfl, Nat.le_of_ble_eq_true rfl⟩ (fun r2 H locs hor2 hh => ?_)
  refine s_if_eq (tgt := 51) C0 dX4_order_46 (by decide) (fun _ => ?_) (fun _ => ?_)
  · refine s_aload_n C0 dX4_order_51 rfl (lv_at hl 0 rfl) ?_
    refine s_get (v := .ref (ad 8 24)) C0 hh (rl_b (by decide)) rfl (T := TX4) (N := 28) rfl hinX4 (by decide) w57 rfl dX4_order_52 ?_
    refine s_aload_n C0 dX4_order_55 rfl (lv_at hl 0 rfl) ?_
    refine s_get (v := .int (r2.2.1 7 0 23)) C0 hh (rl_b (by decide)) rfl (T := TX4) (N := 28) rfl hinX4 (by decide) w341 rfl dX4_order_56 ?_
    refine s_iload_n C0 dX4_order_59 rfl (lv_at hl 1 rfl) ?_
    refine s_cast C0 hh (rl_b (by decide)) (fun _ => rfl) (t0 := 0) rfl (by decide) (by decide) (by decide) dX4_order_60 (fun H locs hh => ?_)
    refine s_aload_n C0 dX4_order_61 rfl (lv_at hl 0 rfl) ?_
    refine s_get (v := .ref (ad 8 25)) C0 hh (rl_b (by decide)) rfl (T := TX4) (N := 28) rfl hinX4 (by decide) w58 rfl dX4_order_62 ?_
    refine s_aload_n C0 dX4_order_65 rfl (lv_at hl 0 rfl) ?_
    refine s_get (v := .int (r2.2.1 7 0 23)) C0 hh (rl_b (by decide)) rfl (T := TX4) (N := 28) rfl hinX4 (by decide) w341 rfl dX4_order_66 ?_
    refine s_iload_n C0 dX4_order_69 rfl (lv_at hl 2 rfl) ?_
    refine s_cast C0 hh (rl_b (by decide)) (fun _ => rfl) (t0 := 0) rfl (by decide) (by decide) (by decide) dX4_order_70 (fun H locs hh => ?_)
    refine s_aload_n C0 dX4_order_71 rfl (lv_at hl 0 rfl) ?_
    refine s_get (v := .ref (ad 8 26)) C0 hh (rl_b (by decide)) rfl (T := TX4) (N := 28) rfl hinX4 (by decide) w59 rfl dX4_order_72 ?_
    refine s_aload_n C0 dX4_order_75 rfl (lv_at hl 0 rfl) ?_
    refine s_get (v := .int (r2.2.1 7 0 23)) C0 hh (rl_b (by decide)) rfl (T := TX4) (N := 28) rfl hinX4 (by decide) w341 rfl dX4_order_76 ?_
    refine s_iload_n C0 dX4_order_79 rfl (lv_at hl 3 rfl) ?_
    refine s_iast C0 hh (rl_b (by decide)) (fun _ => rfl) (t0 := 1) rfl (by decide) (by decide) (by decide) dX4_order_80 (fun H locs hh => ?_)
    refine s_aload_n C0 dX4_order_81 rfl (lv_at hl 0 rfl) ?_
    refine s_dup C0 dX4_order_82 rfl ?_
    refine s_get (v := .int (r2.2.1 7 0 23)) C0 hh (rl_b (by decide)) rfl (T := TX4) (N := 28) rfl hinX4 (by decide) w341 rfl dX4_order_83 ?_
    refine s_iconst (v := 1) C0 dX4_order_86 (by decide) ?_
    refine s_iadd C0 dX4_order_87 ?_
    refine s_put C0 hh (rl_b (by decide)) rfl rfl (T := TX4) (N := 28) rfl hinX4 tyX4 tyX4_ok nmX4 (by decide) w341 rfl (ty := .int) (by decide +kernel) rfl rfl (Nat.le_of_ble_eq_true rfl) (by decide) (by decide) (by decide) dX4_order_88 (fun H locs hh => ?_)
    refine s_aload_n C0 dX4_order_91 rfl (lv_at hl 0 rfl) ?_
    refine s_get (v := .int ((sv (sv (sv (sv r2.2 8 24 ((r2.2.1 7 0 23) : Int32).toNatClampNeg (vp_nar .char x1)) 8 25 ((r2.2.1 7 0 23) : Int32).toNatClampNeg (vp_nar .char x2)) 8 26 ((r2.2.1 7 0 23) : Int32).toNatClampNeg x3) 7 0 23 ((r2.2.1 7 0 23) + 1)).1 7 0 23)) C0 hh (rl_b (by decide)) rfl (T := TX4) (N := 28) rfl hinX4 (by decide) w341 rfl dX4_order_92 ?_
    refine s_iconst (v := 1) C0 dX4_order_95 (by decide) ?_
    refine s_isub C0 dX4_order_96 ?_
    exact s_iret C0 hh hR rfl (Nat.le_of_ble_eq_true rfl) (Nat.le_of_ble_eq_true rfl) dX4_order_97
  · refine s_iconst (v := 0) C0 dX4_order_49 (by decide) ?_
    exact s_iret C0 hh hR rfl (Nat.le_of_ble_eq_true rfl) (Nat.le_of_ble_eq_true rfl) dX4_order_50
def f_X4_order_25 (σ : Sg) (x1 : Int32) (x2 : Int32) (x3 : Int32) : Option (Int32 × Sg) :=
  (f_X4_order_43 σ x1 x2 x3 1)
set_option maxRecDepth 100000 in
set_option maxHeartbeats 4000000 in
theorem b_X4_order_25 (C0 : Cx p l s m args meth c cX4_order 4 RX4 D cy n0) (hR : meth.sig.returnType = (some .int)) (σ : Sg) (x1 : Int32) (x2 : Int32) (x3 : Int32) (H : Heap) (locs : List Loc) (ls : Array Slot) (hh : Hp D cy n0 ad nT nO s σ H locs) (hl : lv_has ls 4 [(0, .ref (ad 7 0)), (1, .int x1), (2, .int x2), (3, .int x3)]) : Sm (Qr below args s D cy n0 ad nT nO vI 0 0) (f_X4_order_25 σ x1 x2 x3) p l e rmX4_order s m args below meth c H locs 0 0 (F0 m 25 ls [.ref (ad 7 0)]) := by
  unfold f_X4_order_25
  refine s_iconst (v := 1) C0 dX4_order_25 (by decide) ?_
  refine s_goto (tgt := 43) C0 dX4_order_26 (by decide) ?_
  exact b_X4_order_43 C0 hR σ x1 x2 x3 1 _ _ _ hh (lv_sub hl [0, 1, 2, 3] rfl)
def f_X4_order_0 (σ : Sg) (x1 : Int32) (x2 : Int32) (x3 : Int32) : Option (Int32 × Sg) :=
  ((f_X4_isShape σ x1).bind (fun r1 => (if (r1.1 : Int32) = (0 : Int32) then (f_X4_order_25 r1.2 x1 x2 x3) else ((f_X4_isCut r1.2 x2).bind (fun r3 => (if (r3.1 : Int32) = (0 : Int32) then (f_X4_order_25 r3.2 x1 x2 x3) else ((f_X4_isBetween r3.2 x3 1 8).bind (fun r4 => (if (r4.1 : Int32) = (0 : Int32) then (f_X4_order_25 r4.2 x1 x2 x3) else (if ((r4.2.1 7 0 23) : Int32) = (6 : Int32) then (f_X4_order_43 r4.2 x1 x2 x3 2) else (f_X4_order_43 r4.2 x1 x2 x3 0)))))))))))
set_option maxRecDepth 100000 in
set_option maxHeartbeats 4000000 in
theorem b_X4_order_0 (C0 : Cx p l s m args meth c cX4_order 4 RX4 D cy n0) (hR : meth.sig.returnType = (some .int)) (σ : Sg) (x1 : Int32) (x2 : Int32) (x3 : Int32) (H : Heap) (locs : List Loc) (ls : Array Slot) (hh : Hp D cy n0 ad nT nO s σ H locs) (hl : lv_has ls 4 [(0, .ref (ad 7 0)), (1, .int x1), (2, .int x2), (3, .int x3)]) : Sm (Qr below args s D cy n0 ad nT nO vI 0 0) (f_X4_order_0 σ x1 x2 x3) p l e rmX4_order s m args below meth c H locs 0 0 (F0 m 0 ls []) := by
  unfold f_X4_order_0
  refine s_aload_n C0 dX4_order_0 rfl (lv_at hl 0 rfl) ?_
  refine s_iload_n C0 dX4_order_1 rfl (lv_at hl 1 rfl) ?_
  refine s_S (As := [.int x1]) (rest := [.ref (ad 7 0)]) C0 hh (c_X4_isShape C0.2.2.2.2.2.2 _ x1) (qc62 C0.1.2.2.2.2 ⟨Nat.le_of_ble_eq_true rfl, Nat.le_of_ble_eq_true rfl⟩) rfl hl.1 rfl (lv_room (Nat.le_of_ble_eq_true rfl)) dX4_order_2 ⟨Nat.le_of_ble_eq_true rfl, Nat.le_of_ble_eq_true rfl⟩ (fun r1 H locs hor1 hh => ?_)
  refine s_if_eq (tgt := 25) C0 dX4_order_5 (by decide) (fun _ => ?_) (fun _ => ?_)
  · exact b_X4_order_25 C0 hR r1.2 x1 x2 x3 _ _ _ hh (lv_sub hl [0, 1, 2, 3] rfl)
  · refine s_iload_n C0 dX4_order_8 rfl (lv_at hl 2 rfl) ?_
    refine s_S (As := [.int x2]) (rest := [.ref (ad 7 0)]) C0 hh (c_X4_isCut C0.2.2.2.2.2.2 _ x2) (qc63 C0.1.2.2.2.2 ⟨Nat.le_of_ble_eq_true rfl, Nat.le_of_ble_eq_true rfl⟩) rfl hl.1 rfl (lv_room (Nat.le_of_ble_eq_true rfl)) dX4_order_9 ⟨Nat.le_of_ble_eq_true rfl, Nat.le_of_ble_eq_true rfl⟩ (fun r3 H locs hor3 hh => ?_)
    refine s_if_eq (tgt := 25) C0 dX4_order_12 (by decide) (fun _ => ?_) (fun _ => ?_)
    · exact b_X4_order_25 C0 hR r3.2 x1 x2 x3 _ _ _ hh (lv_sub hl [0, 1, 2, 3] rfl)
    · refine s_iload_n C0 dX4_order_15 rfl (lv_at hl 3 rfl) ?_
      refine s_iconst (v := 1) C0 dX4_order_16 (by decide) ?_
      refine s_bipush (v := 8) C0 dX4_order_17 (by decide) ?_
      refine s_S (As := [.int x3, .int 1, .int 8]) (rest := [.ref (ad 7 0)]) C0 hh (c_X4_isBetween C0.2.2.2.2.2.2 _ x3 1 8) (qc50 C0.1.2.2.2.2 ⟨Nat.le_of_ble_eq_true rfl, Nat.le_of_ble_eq_true rfl⟩) rfl hl.1 rfl (lv_room (Nat.le_of_ble_eq_true rfl)) dX4_order_19 ⟨Nat.le_of_ble_eq_true rfl, Nat.le_of_ble_eq_true rfl⟩ (fun r4 H locs hor4 hh => ?_)
      refine s_if_ne (tgt := 29) C0 dX4_order_22 (by decide) (fun _ => ?_) (fun _ => ?_)
      · refine s_aload_n C0 dX4_order_29 rfl (lv_at hl 0 rfl) ?_
        refine s_get (v := .int (r4.2.1 7 0 23)) C0 hh (rl_b (by decide)) rfl (T := TX4) (N := 28) rfl hinX4 (by decide) w341 rfl dX4_order_30 ?_
        refine s_bipush (v := 6) C0 dX4_order_33 (by decide) ?_
        refine s_icmp_ne (tgt := 42) C0 dX4_order_35 (by decide) (fun _ => ?_) (fun _ => ?_)
        · refine s_iconst (v := 0) C0 dX4_order_42 (by decide) ?_
          exact b_X4_order_43 C0 hR r4.2 x1 x2 x3 0 _ _ _ hh (lv_sub hl [0, 1, 2, 3] rfl)
        · refine s_iconst (v := 2) C0 dX4_order_38 (by decide) ?_
          refine s_goto (tgt := 43) C0 dX4_order_39 (by decide) ?_
          exact b_X4_order_43 C0 hR r4.2 x1 x2 x3 2 _ _ _ hh (lv_sub hl [0, 1, 2, 3] rfl)
      · exact b_X4_order_25 C0 hR r4.2 x1 x2 x3 _ _ _ hh (lv_sub hl [0, 1, 2, 3] rfl)
def f_X4_order (σ : Sg) (x1 : Int32) (x2 : Int32) (x3 : Int32) : Option (Int32 × Sg) := f_X4_order_0 σ x1 x2 x3
set_option maxRecDepth 100000 in
set_option maxHeartbeats 4000000 in
theorem c_X4_order (hst : l.stackTraces = false) (σ : Sg) (x1 : Int32) (x2 : Int32) (x3 : Int32) : Ct l yX4_order (wm yX4_order cX4_order 4 (some .int)) rmX4_order 0 0 vI [.ref (ad 7 0), .int x1, .int x2, .int x3] D cy n0 ad nT nO  σ (f_X4_order σ x1 x2 x3) := by
  intro r0 h0
  refine Met.ofW (cc := cX4_order) (maxL := 4) (ret := (some .int)) (by decide +kernel) rfl ?_
  intro p e s m args below meth c s₁ B hml hv
  obtain ⟨C0, hh, hR, rfl⟩ := ent B hml hst hv
  rw [lg_entry_eq]
  have hl := lv_entry ([.ref (ad 7 0), .int x1, .int x2, .int x3]) (n := 4) (Nat.le_of_ble_eq_true rfl)
  generalize (lg_sl ([.ref (ad 7 0), .int x1, .int x2, .int x3]) ++ List.replicate (4 - (lg_sl ([.ref (ad 7 0), .int x1, .int x2, .int x3])).length) Slot.unset).toArray = ls at hl ⊢
  exact b_X4_order_0 C0 hR σ x1 x2 x3 _ _ _ hh hl r0 h0
theorem qc68 {R : Room} {s : State} {args : Array Value} (ht : ∀ w ∈ allw, w.before args s = true) (hR : (rmX4_isNoOrder).frames + 1 ≤ R.frames ∧ 8 + (2 + 11) + (rmX4_isNoOrder).locals ≤ R.locals) : CallW R s args RX4 RX4 164 yX4_isNoOrder cX4_isNoOrder 2 (some .boolean) (wm yX4_isNoOrder cX4_isNoOrder 2 (some .boolean)) rmX4_isNoOrder 0 0 1 := cwV 1 ht (gd_of (fun _ h => h) _ (mV w378 w380 w381 w310 w379)) rfl rfl rfl (by decide +kernel) hR
theorem qc69 {R : Room} {s : State} {args : Array Value} (ht : ∀ w ∈ allw, w.before args s = true) (hR : (rmX4_fits).frames + 1 ≤ R.frames ∧ 8 + (4 + 11) + (rmX4_fits).locals ≤ R.locals) : CallW R s args RX4 RX4 167 yX4_fits cX4_fits 4 (some .boolean) (wm yX4_fits cX4_fits 4 (some .boolean)) rmX4_fits 0 0 2 := cwV 2 ht (gd_of (fun _ h => h) _ (mV w382 w384 w385 w310 w383)) rfl rfl rfl (by decide +kernel) hR
def rmX4_isGood : Room := { frames := 5, cells := 0, slots := 0, locals := 109 }
def f_X4_isGood_0 (σ : Sg) (x1 : Int32) (x2 : Int32) : Option (Int32 × Sg) :=
  ((f_X4_isNone σ x1).bind (fun r1 => (if (r1.1 : Int32) = (0 : Int32) then ((f_X4_isNoOrder r1.2 x2).bind (fun r2 => (if (r2.1 : Int32) = (0 : Int32) then ((f_X4_fits r2.2 x1 x2).bind (fun r3 => (if (r3.1 : Int32) = (0 : Int32) then (some (0, r3.2)) else (some (1, r3.2))))) else (some (0, r2.2))))) else (some (0, r1.2)))))
set_option maxRecDepth 100000 in
set_option maxHeartbeats 4000000 in
theorem b_X4_isGood_0 (C0 : Cx p l s m args meth c cX4_isGood 3 RX4 D cy n0) (hR : meth.sig.returnType = (some .boolean)) (σ : Sg) (x1 : Int32) (x2 : Int32) (H : Heap) (locs : List Loc) (ls : Array Slot) (hh : Hp D cy n0 ad nT nO s σ H locs) (hl : lv_has ls 3 [(0, .ref (ad 7 0)), (1, .int x1), (2, .int x2)]) : Sm (Qr below args s D cy n0 ad nT nO vI 0 0) (f_X4_isGood_0 σ x1 x2) p l e rmX4_isGood s m args below meth c H locs 0 0 (F0 m 0 ls []) := by
  unfold f_X4_isGood_0
  refine s_aload_n C0 dX4_isGood_0 rfl (lv_at hl 0 rfl) ?_
  refine s_iload_n C0 dX4_isGood_1 rfl (lv_at hl 1 rfl) ?_
  refine s_V (As := [.int x1]) (rest := []) C0 hh (c_X4_isNone C0.2.2.2.2.2.2 _ x1) (qc56 C0.1.2.2.2.2 ⟨Nat.le_of_ble_eq_true rfl, Nat.le_of_ble_eq_true rfl⟩) (rl_b (by decide)) rfl rfl rfl hl.1 rfl (lv_room (Nat.le_of_ble_eq_true rfl)) dX4_isGood_2 ⟨Nat.le_of_ble_eq_true rfl, Nat.le_of_ble_eq_true rfl⟩ (fun r1 H locs hor1 hh => ?_)
  refine s_if_ne (tgt := 29) C0 dX4_isGood_5 (by decide) (fun _ => ?_) (fun _ => ?_)
  · refine s_iconst (v := 0) C0 dX4_isGood_29 (by decide) ?_
    exact s_iret C0 hh hR narrow_b0 (Nat.le_of_ble_eq_true rfl) (Nat.le_of_ble_eq_true rfl) dX4_isGood_30
  · refine s_aload_n C0 dX4_isGood_8 rfl (lv_at hl 0 rfl) ?_
    refine s_iload_n C0 dX4_isGood_9 rfl (lv_at hl 2 rfl) ?_
    refine s_V (As := [.int x2]) (rest := []) C0 hh (c_X4_isNoOrder C0.2.2.2.2.2.2 _ x2) (qc68 C0.1.2.2.2.2 ⟨Nat.le_of_ble_eq_true rfl, Nat.le_of_ble_eq_true rfl⟩) (rl_b (by decide)) rfl rfl rfl hl.1 rfl (lv_room (Nat.le_of_ble_eq_true rfl)) dX4_isGood_10 ⟨Nat.le_of_ble_eq_true rfl, Nat.le_of_ble_eq_true rfl⟩ (fun r2 H locs hor2 hh => ?_)
    refine s_if_ne (tgt := 29) C0 dX4_isGood_13 (by decide) (fun _ => ?_) (fun _ => ?_)
    · refine s_iconst (v := 0) C0 dX4_isGood_29 (by decide) ?_
      exact s_iret C0 hh hR narrow_b0 (Nat.le_of_ble_eq_true rfl) (Nat.le_of_ble_eq_true rfl) dX4_isGood_30
    · refine s_aload_n C0 dX4_isGood_16 rfl (lv_at hl 0 rfl) ?_
      refine s_iload_n C0 dX4_isGood_17 rfl (lv_at hl 1 rfl) ?_
      refine s_iload_n C0 dX4_isGood_18 rfl (lv_at hl 2 rfl) ?_
      refine s_V (As := [.int x1, .int x2]) (rest := []) C0 hh (c_X4_fits C0.2.2.2.2.2.2 _ x1 x2) (qc69 C0.1.2.2.2.2 ⟨Nat.le_of_ble_eq_true rfl, Nat.le_of_ble_eq_true rfl⟩) (rl_b (by decide)) rfl rfl rfl hl.1 rfl (lv_room (Nat.le_of_ble_eq_true rfl)) dX4_isGood_19 ⟨Nat.le_of_ble_eq_true rfl, Nat.le_of_ble_eq_true rfl⟩ (fun r3 H locs hor3 hh => ?_)
      refine s_if_eq (tgt := 29) C0 dX4_isGood_22 (by decide) (fun _ => ?_) (fun _ => ?_)
      · refine s_iconst (v := 0) C0 dX4_isGood_29 (by decide) ?_
        exact s_iret C0 hh hR narrow_b0 (Nat.le_of_ble_eq_true rfl) (Nat.le_of_ble_eq_true rfl) dX4_isGood_30
      · refine s_iconst (v := 1) C0 dX4_isGood_25 (by decide) ?_
        refine s_goto (tgt := 30) C0 dX4_isGood_26 (by decide) ?_
        exact s_iret C0 hh hR narrow_b1 (Nat.le_of_ble_eq_true rfl) (Nat.le_of_ble_eq_true rfl) dX4_isGood_30
def f_X4_isGood (σ : Sg) (x1 : Int32) (x2 : Int32) : Option (Int32 × Sg) := f_X4_isGood_0 σ x1 x2
set_option maxRecDepth 100000 in
set_option maxHeartbeats 4000000 in
theorem c_X4_isGood (hst : l.stackTraces = false) (σ : Sg) (x1 : Int32) (x2 : Int32) : Ct l yX4_isGood (wm yX4_isGood cX4_isGood 3 (some .boolean)) rmX4_isGood 0 0 vI [.ref (ad 7 0), .int x1, .int x2] D cy n0 ad nT nO  σ (f_X4_isGood σ x1 x2) := by
  intro r0 h0
  refine Met.ofW (cc := cX4_isGood) (maxL := 3) (ret := (some .boolean)) (by decide +kernel) rfl ?_
  intro p e s m args below meth c s₁ B hml hv
  obtain ⟨C0, hh, hR, rfl⟩ := ent B hml hst hv
  rw [lg_entry_eq]
  have hl := lv_entry ([.ref (ad 7 0), .int x1, .int x2]) (n := 3) (Nat.le_of_ble_eq_true rfl)
  generalize (lg_sl ([.ref (ad 7 0), .int x1, .int x2]) ++ List.replicate (3 - (lg_sl ([.ref (ad 7 0), .int x1, .int x2])).length) Slot.unset).toArray = ls at hl ⊢
  exact b_X4_isGood_0 C0 hR σ x1 x2 _ _ _ hh hl r0 h0

def rmX4_send : Room := { frames := 5, cells := 0, slots := 0, locals := 109 }
def f_X4_send_46 (σ : Sg) (x1 : Int32) (x2 : Int32) (s0 : Int32) : Option (Int32 × Sg) :=
  ((f_X4_isWrong σ s0).bind (fun r4 => (if (r4.1 : Int32) = (0 : Int32) then (if (x1 : Int32) < 0 ∨ 8 ≤ (x1 : Int32).toNatClampNeg then none else (if (x2 : Int32) < 0 ∨ 6 ≤ (x2 : Int32).toNatClampNeg then none else (if (x2 : Int32) < 0 ∨ 6 ≤ (x2 : Int32).toNatClampNeg then none else (if (x2 : Int32) < 0 ∨ 6 ≤ (x2 : Int32).toNatClampNeg then none else (some (((sv (sv r4.2 8 19 (x1 : Int32).toNatClampNeg (vp_nar .boolean 1)) 8 27 (x2 : Int32).toNatClampNeg ((r4.2.1 8 27 (x2 : Int32).toNatClampNeg) + 1)).1 8 27 (x2 : Int32).toNatClampNeg), (sv (sv r4.2 8 19 (x1 : Int32).toNatClampNeg (vp_nar .boolean 1)) 8 27 (x2 : Int32).toNatClampNeg ((r4.2.1 8 27 (x2 : Int32).toNatClampNeg) + 1)))))))) else (some (0, r4.2)))))
set_option maxRecDepth 100000 in
set_option maxHeartbeats 4000000 in
theorem b_X4_send_46 (C0 : Cx p l s m args meth c cX4_send 3 RX4 D cy n0) (hR : meth.sig.returnType = (some .int)) (σ : Sg) (x1 : Int32) (x2 : Int32) (s0 : Int32) (H : Heap) (locs : List Loc) (ls : Array Slot) (hh : Hp D cy n0 ad nT nO s σ H locs) (hl : lv_has ls 3 [(0, .ref (ad 7 0)), (1, .int x1), (2, .int x2)]) : Sm (Qr below args s D cy n0 ad nT nO vI 0 0) (f_X4_send_46 σ x1 x2 s0) p l e rmX4_send s m args below meth c H locs 0 0 (F0 m 46 ls [.int s0, .ref (ad 7 0)]) := by
  unfold f_X4_send_46
  refine s_V (As := [.int s0]) (rest := []) C0 hh (c_X4_isWrong C0.2.2.2.2.2.2 _ s0) (qc51 C0.1.2.2.2.2 ⟨Nat.le_of_ble_eq_true rfl, Nat.le_of_ble_eq_true rfl⟩) (rl_b (by decide)) rfl rfl rfl hl.1 rfl (lv_room (Nat.le_of_ble_eq_true rfl)) dX4_send_46 ⟨Nat.le_of_ble_eq_true rfl, Nat.le_of_ble_eq_true rfl⟩ (fun r4 H locs hor4 hh => ?_)
  refine s_if_eq (tgt := 54) C0 dX4_send_49 (by decide) (fun _ => ?_) (fun _ => ?_)
  · refine s_aload_n C0 dX4_send_54 rfl (lv_at hl 0 rfl) ?_
    refine s_get (v := .ref (ad 8 19)) C0 hh (rl_b (by decide)) rfl (T := TX4) (N := 28) rfl hinX4 (by decide) w53 rfl dX4_send_55 ?_
    refine s_iload_n C0 dX4_send_58 rfl (lv_at hl 1 rfl) ?_
    refine s_iconst (v := 1) C0 dX4_send_59 (by decide) ?_
    refine s_zast C0 hh (rl_b (by decide)) (fun _ => rfl) (t0 := 2) rfl (by decide) (by decide) (by decide) dX4_send_60 (fun H locs hh => ?_)
    refine s_aload_n C0 dX4_send_61 rfl (lv_at hl 0 rfl) ?_
    refine s_get (v := .ref (ad 8 27)) C0 hh (rl_b (by decide)) rfl (T := TX4) (N := 28) rfl hinX4 (by decide) w60 rfl dX4_send_62 ?_
    refine s_iload_n C0 dX4_send_65 rfl (lv_at hl 2 rfl) ?_
    refine s_dup2 C0 dX4_send_66 rfl rfl ?_
    refine s_iald (g := (r4.2.1 8 27)) C0 hh rfl (rl_b (by decide)) (fun _ => rfl) (t0 := 1) rfl dX4_send_67 ?_
    refine s_iconst (v := 1) C0 dX4_send_68 (by decide) ?_
    refine s_iadd C0 dX4_send_69 ?_
    refine s_iast C0 hh (rl_b (by decide)) (fun _ => rfl) (t0 := 1) rfl (by decide) (by decide) (by decide) dX4_send_70 (fun H locs hh => ?_)
    refine s_aload_n C0 dX4_send_71 rfl (lv_at hl 0 rfl) ?_
    refine s_get (v := .ref (ad 8 27)) C0 hh (rl_b (by decide)) rfl (T := TX4) (N := 28) rfl hinX4 (by decide) w60 rfl dX4_send_72 ?_
    refine s_iload_n C0 dX4_send_75 rfl (lv_at hl 2 rfl) ?_
    refine s_iald (g := ((sv (sv r4.2 8 19 (x1 : Int32).toNatClampNeg (vp_nar .boolean 1)) 8 27 (x2 : Int32).toNatClampNeg ((r4.2.1 8 27 (x2 : Int32).toNatClampNeg) + 1)).1 8 27)) C0 hh rfl (rl_b (by decide)) (fun _ => rfl) (t0 := 1) rfl dX4_send_76 ?_
    exact s_iret C0 hh hR rfl (Nat.le_of_ble_eq_true rfl) (Nat.le_of_ble_eq_true rfl) dX4_send_77
  · refine s_iconst (v := 0) C0 dX4_send_52 (by decide) ?_
    exact s_iret C0 hh hR rfl (Nat.le_of_ble_eq_true rfl) (Nat.le_of_ble_eq_true rfl) dX4_send_53
def f_X4_send_41 (σ : Sg) (x1 : Int32) (x2 : Int32) : Option (Int32 × Sg) :=
  (f_X4_send_46 σ x1 x2 2)
set_option maxRecDepth 100000 in
set_option maxHeartbeats 4000000 in
theorem b_X4_send_41 (C0 : Cx p l s m args meth c cX4_send 3 RX4 D cy n0) (hR : meth.sig.returnType = (some .int)) (σ : Sg) (x1 : Int32) (x2 : Int32) (H : Heap) (locs : List Loc) (ls : Array Slot) (hh : Hp D cy n0 ad nT nO s σ H locs) (hl : lv_has ls 3 [(0, .ref (ad 7 0)), (1, .int x1), (2, .int x2)]) : Sm (Qr below args s D cy n0 ad nT nO vI 0 0) (f_X4_send_41 σ x1 x2) p l e rmX4_send s m args below meth c H locs 0 0 (F0 m 41 ls [.ref (ad 7 0)]) := by
  unfold f_X4_send_41
  refine s_iconst (v := 2) C0 dX4_send_41 (by decide) ?_
  refine s_goto (tgt := 46) C0 dX4_send_42 (by decide) ?_
  exact b_X4_send_46 C0 hR σ x1 x2 2 _ _ _ hh (lv_sub hl [0, 1, 2] rfl)
def f_X4_send_0 (σ : Sg) (x1 : Int32) (x2 : Int32) : Option (Int32 × Sg) :=
  ((f_X4_isNone σ x1).bind (fun r1 => (if (r1.1 : Int32) = (0 : Int32) then ((f_X4_isNoOrder r1.2 x2).bind (fun r2 => (if (r2.1 : Int32) = (0 : Int32) then ((f_X4_fits r2.2 x1 x2).bind (fun r3 => (if (r3.1 : Int32) = (0 : Int32) then (f_X4_send_41 r3.2 x1 x2) else (if (x2 : Int32) < 0 ∨ 6 ≤ (x2 : Int32).toNatClampNeg then none else (if (x2 : Int32) < 0 ∨ 6 ≤ (x2 : Int32).toNatClampNeg then none else (if ((r3.2.1 8 27 (x2 : Int32).toNatClampNeg) : Int32) = (r3.2.1 8 26 (x2 : Int32).toNatClampNeg) then (f_X4_send_41 r3.2 x1 x2) else (f_X4_send_46 r3.2 x1 x2 0))))))) else (some (0, r2.2))))) else (some (0, r1.2)))))
set_option maxRecDepth 100000 in
set_option maxHeartbeats 4000000 in
theorem b_X4_send_0 (C0 : Cx p l s m args meth c cX4_send 3 RX4 D cy n0) (hR : meth.sig.returnType = (some .int)) (σ : Sg) (x1 : Int32) (x2 : Int32) (H : Heap) (locs : List Loc) (ls : Array Slot) (hh : Hp D cy n0 ad nT nO s σ H locs) (hl : lv_has ls 3 [(0, .ref (ad 7 0)), (1, .int x1), (2, .int x2)]) : Sm (Qr below args s D cy n0 ad nT nO vI 0 0) (f_X4_send_0 σ x1 x2) p l e rmX4_send s m args below meth c H locs 0 0 (F0 m 0 ls []) := by
  unfold f_X4_send_0
  refine s_aload_n C0 dX4_send_0 rfl (lv_at hl 0 rfl) ?_
  refine s_iload_n C0 dX4_send_1 rfl (lv_at hl 1 rfl) ?_
  refine s_V (As := [.int x1]) (rest := []) C0 hh (c_X4_isNone C0.2.2.2.2.2.2 _ x1) (qc56 C0.1.2.2.2.2 ⟨Nat.le_of_ble_eq_true rfl, Nat.le_of_ble_eq_true rfl⟩) (rl_b (by decide)) rfl rfl rfl hl.1 rfl (lv_room (Nat.le_of_ble_eq_true rfl)) dX4_send_2 ⟨Nat.le_of_ble_eq_true rfl, Nat.le_of_ble_eq_true rfl⟩ (fun r1 H locs hor1 hh => ?_)
  refine s_if_ne (tgt := 52) C0 dX4_send_5 (by decide) (fun _ => ?_) (fun _ => ?_)
  · refine s_iconst (v := 0) C0 dX4_send_52 (by decide) ?_
    exact s_iret C0 hh hR rfl (Nat.le_of_ble_eq_true rfl) (Nat.le_of_ble_eq_true rfl) dX4_send_53
  · refine s_aload_n C0 dX4_send_8 rfl (lv_at hl 0 rfl) ?_
    refine s_iload_n C0 dX4_send_9 rfl (lv_at hl 2 rfl) ?_
    refine s_V (As := [.int x2]) (rest := []) C0 hh (c_X4_isNoOrder C0.2.2.2.2.2.2 _ x2) (qc68 C0.1.2.2.2.2 ⟨Nat.le_of_ble_eq_true rfl, Nat.le_of_ble_eq_true rfl⟩) (rl_b (by decide)) rfl rfl rfl hl.1 rfl (lv_room (Nat.le_of_ble_eq_true rfl)) dX4_send_10 ⟨Nat.le_of_ble_eq_true rfl, Nat.le_of_ble_eq_true rfl⟩ (fun r2 H locs hor2 hh => ?_)
    refine s_if_ne (tgt := 52) C0 dX4_send_13 (by decide) (fun _ => ?_) (fun _ => ?_)
    · refine s_iconst (v := 0) C0 dX4_send_52 (by decide) ?_
      exact s_iret C0 hh hR rfl (Nat.le_of_ble_eq_true rfl) (Nat.le_of_ble_eq_true rfl) dX4_send_53
    · refine s_aload_n C0 dX4_send_16 rfl (lv_at hl 0 rfl) ?_
      refine s_aload_n C0 dX4_send_17 rfl (lv_at hl 0 rfl) ?_
      refine s_iload_n C0 dX4_send_18 rfl (lv_at hl 1 rfl) ?_
      refine s_iload_n C0 dX4_send_19 rfl (lv_at hl 2 rfl) ?_
      refine s_V (As := [.int x1, .int x2]) (rest := [.ref (ad 7 0)]) C0 hh (c_X4_fits C0.2.2.2.2.2.2 _ x1 x2) (qc69 C0.1.2.2.2.2 ⟨Nat.le_of_ble_eq_true rfl, Nat.le_of_ble_eq_true rfl⟩) (rl_b (by decide)) rfl rfl rfl hl.1 rfl (lv_room (Nat.le_of_ble_eq_true rfl)) dX4_send_20 ⟨Nat.le_of_ble_eq_true rfl, Nat.le_of_ble_eq_true rfl⟩ (fun r3 H locs hor3 hh => ?_)
      refine s_if_eq (tgt := 41) C0 dX4_send_23 (by decide) (fun _ => ?_) (fun _ => ?_)
      · exact b_X4_send_41 C0 hR r3.2 x1 x2 _ _ _ hh (lv_sub hl [0, 1, 2] rfl)
      · refine s_aload_n C0 dX4_send_26 rfl (lv_at hl 0 rfl) ?_
        refine s_get (v := .ref (ad 8 27)) C0 hh (rl_b (by decide)) rfl (T := TX4) (N := 28) rfl hinX4 (by decide) w60 rfl dX4_send_27 ?_
        refine s_iload_n C0 dX4_send_30 rfl (lv_at hl 2 rfl) ?_
        refine s_iald (g := (r3.2.1 8 27)) C0 hh rfl (rl_b (by decide)) (fun _ => rfl) (t0 := 1) rfl dX4_send_31 ?_
        refine s_aload_n C0 dX4_send_32 rfl (lv_at hl 0 rfl) ?_
        refine s_get (v := .ref (ad 8 26)) C0 hh (rl_b (by decide)) rfl (T := TX4) (N := 28) rfl hinX4 (by decide) w59 rfl dX4_send_33 ?_
        refine s_iload_n C0 dX4_send_36 rfl (lv_at hl 2 rfl) ?_
        refine s_iald (g := (r3.2.1 8 26)) C0 hh rfl (rl_b (by decide)) (fun _ => rfl) (t0 := 1) rfl dX4_send_37 ?_
        refine s_icmp_ne (tgt := 45) C0 dX4_send_38 (by decide) (fun _ => ?_) (fun _ => ?_)
        · refine s_iconst (v := 0) C0 dX4_send_45 (by decide) ?_
          exact b_X4_send_46 C0 hR r3.2 x1 x2 0 _ _ _ hh (lv_sub hl [0, 1, 2] rfl)
        · exact b_X4_send_41 C0 hR r3.2 x1 x2 _ _ _ hh (lv_sub hl [0, 1, 2] rfl)
def f_X4_send (σ : Sg) (x1 : Int32) (x2 : Int32) : Option (Int32 × Sg) := f_X4_send_0 σ x1 x2
set_option maxRecDepth 100000 in
set_option maxHeartbeats 4000000 in
theorem c_X4_send (hst : l.stackTraces = false) (σ : Sg) (x1 : Int32) (x2 : Int32) : Ct l yX4_send (wm yX4_send cX4_send 3 (some .int)) rmX4_send 0 0 vI [.ref (ad 7 0), .int x1, .int x2] D cy n0 ad nT nO  σ (f_X4_send σ x1 x2) := by
  intro r0 h0
  refine Met.ofW (cc := cX4_send) (maxL := 3) (ret := (some .int)) (by decide +kernel) rfl ?_
  intro p e s m args below meth c s₁ B hml hv
  obtain ⟨C0, hh, hR, rfl⟩ := ent B hml hst hv
  rw [lg_entry_eq]
  have hl := lv_entry ([.ref (ad 7 0), .int x1, .int x2]) (n := 3) (Nat.le_of_ble_eq_true rfl)
  generalize (lg_sl ([.ref (ad 7 0), .int x1, .int x2]) ++ List.replicate (3 - (lg_sl ([.ref (ad 7 0), .int x1, .int x2])).length) Slot.unset).toArray = ls at hl ⊢
  exact b_X4_send_0 C0 hR σ x1 x2 _ _ _ hh hl r0 h0

def rmX4_sent : Room := { frames := 2, cells := 0, slots := 0, locals := 43 }
def f_X4_sent_0 (σ : Sg) (x1 : Int32) : Option (Int32 × Sg) :=
  ((f_X4_isNoOrder σ x1).bind (fun r1 => (if (r1.1 : Int32) = (0 : Int32) then (if (x1 : Int32) < 0 ∨ 6 ≤ (x1 : Int32).toNatClampNeg then none else (some ((r1.2.1 8 27 (x1 : Int32).toNatClampNeg), r1.2))) else (some (0, r1.2)))))
set_option maxRecDepth 100000 in
set_option maxHeartbeats 4000000 in
theorem b_X4_sent_0 (C0 : Cx p l s m args meth c cX4_sent 2 RX4 D cy n0) (hR : meth.sig.returnType = (some .int)) (σ : Sg) (x1 : Int32) (H : Heap) (locs : List Loc) (ls : Array Slot) (hh : Hp D cy n0 ad nT nO s σ H locs) (hl : lv_has ls 2 [(0, .ref (ad 7 0)), (1, .int x1)]) : Sm (Qr below args s D cy n0 ad nT nO vI 0 0) (f_X4_sent_0 σ x1) p l e rmX4_sent s m args below meth c H locs 0 0 (F0 m 0 ls []) := by
  unfold f_X4_sent_0
  refine s_aload_n C0 dX4_sent_0 rfl (lv_at hl 0 rfl) ?_
  refine s_iload_n C0 dX4_sent_1 rfl (lv_at hl 1 rfl) ?_
  refine s_V (As := [.int x1]) (rest := []) C0 hh (c_X4_isNoOrder C0.2.2.2.2.2.2 _ x1) (qc68 C0.1.2.2.2.2 ⟨Nat.le_of_ble_eq_true rfl, Nat.le_of_ble_eq_true rfl⟩) (rl_b (by decide)) rfl rfl rfl hl.1 rfl (lv_room (Nat.le_of_ble_eq_true rfl)) dX4_sent_2 ⟨Nat.le_of_ble_eq_true rfl, Nat.le_of_ble_eq_true rfl⟩ (fun r1 H locs hor1 hh => ?_)
  refine s_if_eq (tgt := 12) C0 dX4_sent_5 (by decide) (fun _ => ?_) (fun _ => ?_)
  · refine s_aload_n C0 dX4_sent_12 rfl (lv_at hl 0 rfl) ?_
    refine s_get (v := .ref (ad 8 27)) C0 hh (rl_b (by decide)) rfl (T := TX4) (N := 28) rfl hinX4 (by decide) w60 rfl dX4_sent_13 ?_
    refine s_iload_n C0 dX4_sent_16 rfl (lv_at hl 1 rfl) ?_
    refine s_iald (g := (r1.2.1 8 27)) C0 hh rfl (rl_b (by decide)) (fun _ => rfl) (t0 := 1) rfl dX4_sent_17 ?_
    exact s_iret C0 hh hR rfl (Nat.le_of_ble_eq_true rfl) (Nat.le_of_ble_eq_true rfl) dX4_sent_18
  · refine s_iconst (v := 0) C0 dX4_sent_8 (by decide) ?_
    refine s_goto (tgt := 18) C0 dX4_sent_9 (by decide) ?_
    exact s_iret C0 hh hR rfl (Nat.le_of_ble_eq_true rfl) (Nat.le_of_ble_eq_true rfl) dX4_sent_18
def f_X4_sent (σ : Sg) (x1 : Int32) : Option (Int32 × Sg) := f_X4_sent_0 σ x1
set_option maxRecDepth 100000 in
set_option maxHeartbeats 4000000 in
theorem c_X4_sent (hst : l.stackTraces = false) (σ : Sg) (x1 : Int32) : Ct l yX4_sent (wm yX4_sent cX4_sent 2 (some .int)) rmX4_sent 0 0 vI [.ref (ad 7 0), .int x1] D cy n0 ad nT nO  σ (f_X4_sent σ x1) := by
  intro r0 h0
  refine Met.ofW (cc := cX4_sent) (maxL := 2) (ret := (some .int)) (by decide +kernel) rfl ?_
  intro p e s m args below meth c s₁ B hml hv
  obtain ⟨C0, hh, hR, rfl⟩ := ent B hml hst hv
  rw [lg_entry_eq]
  have hl := lv_entry ([.ref (ad 7 0), .int x1]) (n := 2) (Nat.le_of_ble_eq_true rfl)
  generalize (lg_sl ([.ref (ad 7 0), .int x1]) ++ List.replicate (2 - (lg_sl ([.ref (ad 7 0), .int x1])).length) Slot.unset).toArray = ls at hl ⊢
  exact b_X4_sent_0 C0 hR σ x1 _ _ _ hh hl r0 h0

def rmX4_wornShare : Room := { frames := 4, cells := 0, slots := 0, locals := 86 }
def f_X4_wornShare_88 (σ : Sg) (s0 : UInt32) : Option (UInt32 × Sg) :=
  (some (s0, σ))
set_option maxRecDepth 100000 in
set_option maxHeartbeats 4000000 in
theorem b_X4_wornShare_88 (C0 : Cx p l s m args meth c cX4_wornShare 4 RX4 D cy n0) (hR : meth.sig.returnType = (some .float)) (σ : Sg) (s0 : UInt32) (H : Heap) (locs : List Loc) (ls : Array Slot) (hh : Hp D cy n0 ad nT nO s σ H locs) (hl : lv_has ls 4 []) : Sm (Qr below args s D cy n0 ad nT nO vF 0 0) (f_X4_wornShare_88 σ s0) p l e rmX4_wornShare s m args below meth c H locs 0 0 (F0 m 88 ls [.float s0]) := by
  unfold f_X4_wornShare_88
  exact s_fret C0 hh hR (Nat.le_of_ble_eq_true rfl) (Nat.le_of_ble_eq_true rfl) dX4_wornShare_88
def f_X4_wornShare_73 (σ : Sg) (x1 : Int32) (x2 : Int32) (s0 : Int32) : Option (UInt32 × Sg) :=
  ((f_X4_isWrong σ s0).bind (fun r1 => (if (r1.1 : Int32) = (0 : Int32) then (if (FP.fdiv (FP.i2f x1) (FP.i2f x2)) &&& 0x7fffffff ≤ 0x7f800000 then (f_X4_wornShare_88 r1.2 (FP.fdiv (FP.i2f x1) (FP.i2f x2))) else none) else (f_X4_wornShare_88 r1.2 0))))
set_option maxRecDepth 100000 in
set_option maxHeartbeats 4000000 in
theorem b_X4_wornShare_73 (C0 : Cx p l s m args meth c cX4_wornShare 4 RX4 D cy n0) (hR : meth.sig.returnType = (some .float)) (σ : Sg) (x1 : Int32) (x2 : Int32) (s0 : Int32) (H : Heap) (locs : List Loc) (ls : Array Slot) (hh : Hp D cy n0 ad nT nO s σ H locs) (hl : lv_has ls 4 [(1, .int x1), (2, .int x2)]) : Sm (Qr below args s D cy n0 ad nT nO vF 0 0) (f_X4_wornShare_73 σ x1 x2 s0) p l e rmX4_wornShare s m args below meth c H locs 0 0 (F0 m 73 ls [.int s0, .ref (ad 7 0)]) := by
  unfold f_X4_wornShare_73
  refine s_V (As := [.int s0]) (rest := []) C0 hh (c_X4_isWrong C0.2.2.2.2.2.2 _ s0) (qc51 C0.1.2.2.2.2 ⟨Nat.le_of_ble_eq_true rfl, Nat.le_of_ble_eq_true rfl⟩) (rl_b (by decide)) rfl rfl rfl hl.1 rfl (lv_room (Nat.le_of_ble_eq_true rfl)) dX4_wornShare_73 ⟨Nat.le_of_ble_eq_true rfl, Nat.le_of_ble_eq_true rfl⟩ (fun r1 H locs hor1 hh => ?_)
  refine s_if_eq (tgt := 83) C0 dX4_wornShare_76 (by decide) (fun _ => ?_) (fun _ => ?_)
  · refine s_iload_n C0 dX4_wornShare_83 rfl (lv_at hl 0 rfl) ?_
    refine s_i2f C0 dX4_wornShare_84 ?_
    refine s_iload_n C0 dX4_wornShare_85 rfl (lv_at hl 1 rfl) ?_
    refine s_i2f C0 dX4_wornShare_86 ?_
    refine s_fdiv C0 dX4_wornShare_87 ?_
    exact b_X4_wornShare_88 C0 hR r1.2 (FP.fdiv (FP.i2f x1) (FP.i2f x2)) _ _ _ hh ⟨hl.1, hl.2.1, fun _ h => nomatch h⟩
  · refine s_fconst C0 dX4_wornShare_79 ?_
    refine s_goto (tgt := 88) C0 dX4_wornShare_80 (by decide) ?_
    exact b_X4_wornShare_88 C0 hR r1.2 0 _ _ _ hh ⟨hl.1, hl.2.1, fun _ h => nomatch h⟩
def f_X4_wornShare_55 (rec6 : Sg → Int32 → Int32 → Int32 → Option (UInt32 × Sg)) (σ : Sg) (x1 : Int32) (x3 : Int32) (s0 : Int32) (s1 : Int32) : Option (UInt32 × Sg) :=
  (rec6 σ x1 (s1 + s0) (x3 + 1))
set_option maxRecDepth 100000 in
set_option maxHeartbeats 4000000 in
theorem b_X4_wornShare_55 (C0 : Cx p l s m args meth c cX4_wornShare 4 RX4 D cy n0) (hR : meth.sig.returnType = (some .float)) (rec6 : Sg → Int32 → Int32 → Int32 → Option (UInt32 × Sg)) (hrec6 : ∀ (σ : Sg) (x1 : Int32) (x2 : Int32) (x3 : Int32) (H : Heap) (locs : List Loc) (ls : Array Slot), Hp D cy n0 ad nT nO s σ H locs → lv_has ls 4 [(0, .ref (ad 7 0)), (1, .int x1), (2, .int x2), (3, .int x3)] → Sm (Qr below args s D cy n0 ad nT nO vF 0 0) (rec6 σ x1 x2 x3) p l e rmX4_wornShare s m args below meth c H locs 0 0 (F0 m 6 ls [])) (σ : Sg) (x1 : Int32) (x3 : Int32) (s0 : Int32) (s1 : Int32) (H : Heap) (locs : List Loc) (ls : Array Slot) (hh : Hp D cy n0 ad nT nO s σ H locs) (hl : lv_has ls 4 [(0, .ref (ad 7 0)), (1, .int x1), (3, .int x3)]) : Sm (Qr below args s D cy n0 ad nT nO vF 0 0) (f_X4_wornShare_55 rec6 σ x1 x3 s0 s1) p l e rmX4_wornShare s m args below meth c H locs 0 0 (F0 m 55 ls [.int s0, .int s1]) := by
  unfold f_X4_wornShare_55
  refine s_iadd C0 dX4_wornShare_55 ?_
  refine s_istore_n (lv' := [(2, .int (s1 + s0)), (0, .ref (ad 7 0)), (1, .int x1), (3, .int x3)]) C0 dX4_wornShare_56 rfl hl (by decide) rfl (fun ls hl => ?_)
  refine s_iinc (k := 3) (v := (x3 + 1)) (lv' := [(3, .int (x3 + 1)), (2, .int (s1 + s0)), (0, .ref (ad 7 0)), (1, .int x1)]) C0 dX4_wornShare_57 hl rfl rfl (by decide) rfl (fun ls hl => ?_)
  refine s_goto (tgt := 6) C0 dX4_wornShare_60 (by decide) ?_
  exact hrec6 σ x1 (s1 + s0) (x3 + 1) _ _ _ hh (lv_sub hl [2, 3, 1, 0] rfl)
def f_X4_wornShare_33 (rec6 : Sg → Int32 → Int32 → Int32 → Option (UInt32 × Sg)) (σ : Sg) (x2 : Int32) (x3 : Int32) (s0 : Int32) (s1 : Int32) : Option (UInt32 × Sg) :=
  (if (x3 : Int32) < 0 ∨ 8 ≤ (x3 : Int32).toNatClampNeg then none else (if ((σ.1 8 19 (x3 : Int32).toNatClampNeg) : Int32) = (0 : Int32) then (if (x3 : Int32) < 0 ∨ 8 ≤ (x3 : Int32).toNatClampNeg then none else (f_X4_wornShare_55 rec6 σ (s1 + s0) x3 (σ.1 8 16 (x3 : Int32).toNatClampNeg) x2)) else (f_X4_wornShare_55 rec6 σ (s1 + s0) x3 0 x2)))
set_option maxRecDepth 100000 in
set_option maxHeartbeats 4000000 in
theorem b_X4_wornShare_33 (C0 : Cx p l s m args meth c cX4_wornShare 4 RX4 D cy n0) (hR : meth.sig.returnType = (some .float)) (rec6 : Sg → Int32 → Int32 → Int32 → Option (UInt32 × Sg)) (hrec6 : ∀ (σ : Sg) (x1 : Int32) (x2 : Int32) (x3 : Int32) (H : Heap) (locs : List Loc) (ls : Array Slot), Hp D cy n0 ad nT nO s σ H locs → lv_has ls 4 [(0, .ref (ad 7 0)), (1, .int x1), (2, .int x2), (3, .int x3)] → Sm (Qr below args s D cy n0 ad nT nO vF 0 0) (rec6 σ x1 x2 x3) p l e rmX4_wornShare s m args below meth c H locs 0 0 (F0 m 6 ls [])) (σ : Sg) (x2 : Int32) (x3 : Int32) (s0 : Int32) (s1 : Int32) (H : Heap) (locs : List Loc) (ls : Array Slot) (hh : Hp D cy n0 ad nT nO s σ H locs) (hl : lv_has ls 4 [(0, .ref (ad 7 0)), (2, .int x2), (3, .int x3)]) : Sm (Qr below args s D cy n0 ad nT nO vF 0 0) (f_X4_wornShare_33 rec6 σ x2 x3 s0 s1) p l e rmX4_wornShare s m args below meth c H locs 0 0 (F0 m 33 ls [.int s0, .int s1]) := by
  unfold f_X4_wornShare_33
  refine s_iadd C0 dX4_wornShare_33 ?_
  refine s_istore_n (lv' := [(1, .int (s1 + s0)), (0, .ref (ad 7 0)), (2, .int x2), (3, .int x3)]) C0 dX4_wornShare_34 rfl hl (by decide) rfl (fun ls hl => ?_)
  refine s_iload_n C0 dX4_wornShare_35 rfl (lv_at hl 2 rfl) ?_
  refine s_aload_n C0 dX4_wornShare_36 rfl (lv_at hl 1 rfl) ?_
  refine s_get (v := .ref (ad 8 19)) C0 hh (rl_b (by decide)) rfl (T := TX4) (N := 28) rfl hinX4 (by decide) w53 rfl dX4_wornShare_37 ?_
  refine s_iload_n C0 dX4_wornShare_40 rfl (lv_at hl 3 rfl) ?_
  refine s_zald (g := (σ.1 8 19)) C0 hh rfl (rl_b (by decide)) (fun _ => rfl) (t0 := 2) rfl dX4_wornShare_41 ?_
  refine s_if_eq (tgt := 49) C0 dX4_wornShare_42 (by decide) (fun _ => ?_) (fun _ => ?_)
  · refine s_aload_n C0 dX4_wornShare_49 rfl (lv_at hl 1 rfl) ?_
    refine s_get (v := .ref (ad 8 16)) C0 hh (rl_b (by decide)) rfl (T := TX4) (N := 28) rfl hinX4 (by decide) w49 rfl dX4_wornShare_50 ?_
    refine s_iload_n C0 dX4_wornShare_53 rfl (lv_at hl 3 rfl) ?_
    refine s_iald (g := (σ.1 8 16)) C0 hh rfl (rl_b (by decide)) (fun _ => rfl) (t0 := 1) rfl dX4_wornShare_54 ?_
    exact b_X4_wornShare_55 C0 hR rec6 hrec6 σ (s1 + s0) x3 (σ.1 8 16 (x3 : Int32).toNatClampNeg) x2 _ _ _ hh (lv_sub hl [1, 0, 3] rfl)
  · refine s_iconst (v := 0) C0 dX4_wornShare_45 (by decide) ?_
    refine s_goto (tgt := 55) C0 dX4_wornShare_46 (by decide) ?_
    exact b_X4_wornShare_55 C0 hR rec6 hrec6 σ (s1 + s0) x3 0 x2 _ _ _ hh (lv_sub hl [1, 0, 3] rfl)
def g_X4_wornShare_6 (rec6 : Sg → Int32 → Int32 → Int32 → Option (UInt32 × Sg)) (σ : Sg) (x1 : Int32) (x2 : Int32) (x3 : Int32) : Option (UInt32 × Sg) :=
  (if (σ.1 7 0 1) ≤ (x3 : Int32) then (if (x2 : Int32) = (0 : Int32) then (f_X4_wornShare_73 σ x1 x2 1) else (f_X4_wornShare_73 σ x1 x2 0)) else (if (x3 : Int32) < 0 ∨ 8 ≤ (x3 : Int32).toNatClampNeg then none else (if ((σ.1 8 19 (x3 : Int32).toNatClampNeg) : Int32) = (0 : Int32) then ((f_X4_worn σ x3).bind (fun r2 => (f_X4_wornShare_33 rec6 r2.2 x2 x3 r2.1 x1))) else (f_X4_wornShare_33 rec6 σ x2 x3 0 x1))))
def f_X4_wornShare_6 : Nat → Sg → Int32 → Int32 → Int32 → Option (UInt32 × Sg)
  | 0 => fun _ _ _ _ => none
  | n + 1 => fun σ x1 x2 x3 => g_X4_wornShare_6 (f_X4_wornShare_6 n) σ x1 x2 x3
set_option maxRecDepth 100000 in
set_option maxHeartbeats 4000000 in
theorem a_X4_wornShare_6 (C0 : Cx p l s m args meth c cX4_wornShare 4 RX4 D cy n0) (hR : meth.sig.returnType = (some .float)) (rec6 : Sg → Int32 → Int32 → Int32 → Option (UInt32 × Sg)) (hrec6 : ∀ (σ : Sg) (x1 : Int32) (x2 : Int32) (x3 : Int32) (H : Heap) (locs : List Loc) (ls : Array Slot), Hp D cy n0 ad nT nO s σ H locs → lv_has ls 4 [(0, .ref (ad 7 0)), (1, .int x1), (2, .int x2), (3, .int x3)] → Sm (Qr below args s D cy n0 ad nT nO vF 0 0) (rec6 σ x1 x2 x3) p l e rmX4_wornShare s m args below meth c H locs 0 0 (F0 m 6 ls [])) (σ : Sg) (x1 : Int32) (x2 : Int32) (x3 : Int32) (H : Heap) (locs : List Loc) (ls : Array Slot) (hh : Hp D cy n0 ad nT nO s σ H locs) (hl : lv_has ls 4 [(0, .ref (ad 7 0)), (1, .int x1), (2, .int x2), (3, .int x3)]) : Sm (Qr below args s D cy n0 ad nT nO vF 0 0) (g_X4_wornShare_6 rec6 σ x1 x2 x3) p l e rmX4_wornShare s m args below meth c H locs 0 0 (F0 m 6 ls []) := by
  unfold g_X4_wornShare_6
  refine s_iload_n C0 dX4_wornShare_6 rfl (lv_at hl 3 rfl) ?_
  refine s_aload_n C0 dX4_wornShare_7 rfl (lv_at hl 0 rfl) ?_
  refine s_get (v := .int (σ.1 7 0 1)) C0 hh (rl_b (by decide)) rfl (T := TX4) (N := 28) rfl hinX4 (by decide) w307 rfl dX4_wornShare_8 ?_
  refine s_icmp_ge (tgt := 63) C0 dX4_wornShare_11 (by decide) (fun _ => ?_) (fun _ => ?_)
  · refine s_aload_n C0 dX4_wornShare_63 rfl (lv_at hl 0 rfl) ?_
    refine s_iload_n C0 dX4_wornShare_64 rfl (lv_at hl 2 rfl) ?_
    refine s_if_ne (tgt := 72) C0 dX4_wornShare_65 (by decide) (fun _ => ?_) (fun _ => ?_)
    · refine s_iconst (v := 0) C0 dX4_wornShare_72 (by decide) ?_
      exact b_X4_wornShare_73 C0 hR σ x1 x2 0 _ _ _ hh (lv_sub hl [1, 2] rfl)
    · refine s_iconst (v := 1) C0 dX4_wornShare_68 (by decide) ?_
      refine s_goto (tgt := 73) C0 dX4_wornShare_69 (by decide) ?_
      exact b_X4_wornShare_73 C0 hR σ x1 x2 1 _ _ _ hh (lv_sub hl [1, 2] rfl)
  · refine s_iload_n C0 dX4_wornShare_14 rfl (lv_at hl 1 rfl) ?_
    refine s_aload_n C0 dX4_wornShare_15 rfl (lv_at hl 0 rfl) ?_
    refine s_get (v := .ref (ad 8 19)) C0 hh (rl_b (by decide)) rfl (T := TX4) (N := 28) rfl hinX4 (by decide) w53 rfl dX4_wornShare_16 ?_
    refine s_iload_n C0 dX4_wornShare_19 rfl (lv_at hl 3 rfl) ?_
    refine s_zald (g := (σ.1 8 19)) C0 hh rfl (rl_b (by decide)) (fun _ => rfl) (t0 := 2) rfl dX4_wornShare_20 ?_
    refine s_if_eq (tgt := 28) C0 dX4_wornShare_21 (by decide) (fun _ => ?_) (fun _ => ?_)
    · refine s_aload_n C0 dX4_wornShare_28 rfl (lv_at hl 0 rfl) ?_
      refine s_iload_n C0 dX4_wornShare_29 rfl (lv_at hl 3 rfl) ?_
      refine s_V (As := [.int x3]) (rest := [.int x1]) C0 hh (c_X4_worn C0.2.2.2.2.2.2 _ x3) (qc60 C0.1.2.2.2.2 ⟨Nat.le_of_ble_eq_true rfl, Nat.le_of_ble_eq_true rfl⟩) (rl_b (by decide)) rfl rfl rfl hl.1 rfl (lv_room (Nat.le_of_ble_eq_true rfl)) dX4_wornShare_30 ⟨Nat.le_of_ble_eq_true rfl, Nat.le_of_ble_eq_true rfl⟩ (fun r2 H locs hor2 hh => ?_)
      exact b_X4_wornShare_33 C0 hR rec6 hrec6 r2.2 x2 x3 r2.1 x1 _ _ _ hh (lv_sub hl [0, 2, 3] rfl)
    · refine s_iconst (v := 0) C0 dX4_wornShare_24 (by decide) ?_
      refine s_goto (tgt := 33) C0 dX4_wornShare_25 (by decide) ?_
      exact b_X4_wornShare_33 C0 hR rec6 hrec6 σ x2 x3 0 x1 _ _ _ hh (lv_sub hl [0, 2, 3] rfl)
theorem b_X4_wornShare_6 (C0 : Cx p l s m args meth c cX4_wornShare 4 RX4 D cy n0) (hR : meth.sig.returnType = (some .float)) : ∀ (n : Nat) (σ : Sg) (x1 : Int32) (x2 : Int32) (x3 : Int32) (H : Heap) (locs : List Loc) (ls : Array Slot) (hh : Hp D cy n0 ad nT nO s σ H locs) (hl : lv_has ls 4 [(0, .ref (ad 7 0)), (1, .int x1), (2, .int x2), (3, .int x3)]), Sm (Qr below args s D cy n0 ad nT nO vF 0 0) (f_X4_wornShare_6 n σ x1 x2 x3) p l e rmX4_wornShare s m args below meth c H locs 0 0 (F0 m 6 ls []) := by
  intro n
  induction n with
  | zero => intros; intro r h; cases h
  | succ n ih => intro σ x1 x2 x3 H locs ls hh hl; exact a_X4_wornShare_6 C0 hR (f_X4_wornShare_6 n) ih σ x1 x2 x3 H locs ls hh hl
def f_X4_wornShare_0 (σ : Sg) : Option (UInt32 × Sg) :=
  (f_X4_wornShare_6 70 σ 0 0 0)
set_option maxRecDepth 100000 in
set_option maxHeartbeats 4000000 in
theorem b_X4_wornShare_0 (C0 : Cx p l s m args meth c cX4_wornShare 4 RX4 D cy n0) (hR : meth.sig.returnType = (some .float)) (σ : Sg) (H : Heap) (locs : List Loc) (ls : Array Slot) (hh : Hp D cy n0 ad nT nO s σ H locs) (hl : lv_has ls 4 [(0, .ref (ad 7 0))]) : Sm (Qr below args s D cy n0 ad nT nO vF 0 0) (f_X4_wornShare_0 σ) p l e rmX4_wornShare s m args below meth c H locs 0 0 (F0 m 0 ls []) := by
  unfold f_X4_wornShare_0
  refine s_iconst (v := 0) C0 dX4_wornShare_0 (by decide) ?_
  refine s_istore_n (lv' := [(1, .int 0), (0, .ref (ad 7 0))]) C0 dX4_wornShare_1 rfl hl (by decide) rfl (fun ls hl => ?_)
  refine s_iconst (v := 0) C0 dX4_wornShare_2 (by decide) ?_
  refine s_istore_n (lv' := [(2, .int 0), (1, .int 0), (0, .ref (ad 7 0))]) C0 dX4_wornShare_3 rfl hl (by decide) rfl (fun ls hl => ?_)
  refine s_iconst (v := 0) C0 dX4_wornShare_4 (by decide) ?_
  refine s_istore_n (lv' := [(3, .int 0), (2, .int 0), (1, .int 0), (0, .ref (ad 7 0))]) C0 dX4_wornShare_5 rfl hl (by decide) rfl (fun ls hl => ?_)
  exact b_X4_wornShare_6 C0 hR 70 σ 0 0 0 _ _ _ hh (lv_sub hl [3, 2, 1, 0] rfl)
def f_X4_wornShare (σ : Sg) : Option (UInt32 × Sg) := f_X4_wornShare_0 σ
set_option maxRecDepth 100000 in
set_option maxHeartbeats 4000000 in
theorem c_X4_wornShare (hst : l.stackTraces = false) (σ : Sg) : Ct l yX4_wornShare (wm yX4_wornShare cX4_wornShare 4 (some .float)) rmX4_wornShare 0 0 vF [.ref (ad 7 0)] D cy n0 ad nT nO  σ (f_X4_wornShare σ) := by
  intro r0 h0
  refine Met.ofW (cc := cX4_wornShare) (maxL := 4) (ret := (some .float)) (by decide +kernel) rfl ?_
  intro p e s m args below meth c s₁ B hml hv
  obtain ⟨C0, hh, hR, rfl⟩ := ent B hml hst hv
  rw [lg_entry_eq]
  have hl := lv_entry ([.ref (ad 7 0)]) (n := 4) (Nat.le_of_ble_eq_true rfl)
  generalize (lg_sl ([.ref (ad 7 0)]) ++ List.replicate (4 - (lg_sl ([.ref (ad 7 0)])).length) Slot.unset).toArray = ls at hl ⊢
  exact b_X4_wornShare_0 C0 hR σ _ _ _ hh hl r0 h0

def rmX4_meanHardness : Room := { frames := 1, cells := 0, slots := 0, locals := 21 }
def f_X4_meanHardness_103 (σ : Sg) (s0 : UInt64) : Option (UInt64 × Sg) :=
  (some (s0, σ))
set_option maxRecDepth 100000 in
set_option maxHeartbeats 4000000 in
theorem b_X4_meanHardness_103 (C0 : Cx p l s m args meth c cX4_meanHardness 5 RX4 D cy n0) (hR : meth.sig.returnType = (some .double)) (σ : Sg) (s0 : UInt64) (H : Heap) (locs : List Loc) (ls : Array Slot) (hh : Hp D cy n0 ad nT nO s σ H locs) (hl : lv_has ls 5 []) : Sm (Qr below args s D cy n0 ad nT nO vD 0 0) (f_X4_meanHardness_103 σ s0) p l e rmX4_meanHardness s m args below meth c H locs 0 0 (F0 m 103 ls [.double s0]) := by
  unfold f_X4_meanHardness_103
  exact s_dret C0 hh hR (Nat.le_of_ble_eq_true rfl) (Nat.le_of_ble_eq_true rfl) dX4_meanHardness_103
def f_X4_meanHardness_88 (σ : Sg) (x1 : Int32) (x2 : Int32) (s0 : Int32) : Option (UInt64 × Sg) :=
  ((f_X4_isWrong σ s0).bind (fun r1 => (if (r1.1 : Int32) = (0 : Int32) then (if (FP.ddiv (FP.i2d x1) (FP.i2d x2)) &&& 0x7fffffffffffffff ≤ 0x7ff0000000000000 then (f_X4_meanHardness_103 r1.2 (FP.ddiv (FP.i2d x1) (FP.i2d x2))) else none) else (f_X4_meanHardness_103 r1.2 0))))
set_option maxRecDepth 100000 in
set_option maxHeartbeats 4000000 in
theorem b_X4_meanHardness_88 (C0 : Cx p l s m args meth c cX4_meanHardness 5 RX4 D cy n0) (hR : meth.sig.returnType = (some .double)) (σ : Sg) (x1 : Int32) (x2 : Int32) (s0 : Int32) (H : Heap) (locs : List Loc) (ls : Array Slot) (hh : Hp D cy n0 ad nT nO s σ H locs) (hl : lv_has ls 5 [(1, .int x1), (2, .int x2)]) : Sm (Qr below args s D cy n0 ad nT nO vD 0 0) (f_X4_meanHardness_88 σ x1 x2 s0) p l e rmX4_meanHardness s m args below meth c H locs 0 0 (F0 m 88 ls [.int s0, .ref (ad 7 0)]) := by
  unfold f_X4_meanHardness_88
  refine s_V (As := [.int s0]) (rest := []) C0 hh (c_X4_isWrong C0.2.2.2.2.2.2 _ s0) (qc51 C0.1.2.2.2.2 ⟨Nat.le_of_ble_eq_true rfl, Nat.le_of_ble_eq_true rfl⟩) (rl_b (by decide)) rfl rfl rfl hl.1 rfl (lv_room (Nat.le_of_ble_eq_true rfl)) dX4_meanHardness_88 ⟨Nat.le_of_ble_eq_true rfl, Nat.le_of_ble_eq_true rfl⟩ (fun r1 H locs hor1 hh => ?_)
  refine s_if_eq (tgt := 98) C0 dX4_meanHardness_91 (by decide) (fun _ => ?_) (fun _ => ?_)
  · refine s_iload_n C0 dX4_meanHardness_98 rfl (lv_at hl 0 rfl) ?_
    refine s_i2d C0 dX4_meanHardness_99 ?_
    refine s_iload_n C0 dX4_meanHardness_100 rfl (lv_at hl 1 rfl) ?_
    refine s_i2d C0 dX4_meanHardness_101 ?_
    refine s_ddiv C0 dX4_meanHardness_102 ?_
    exact b_X4_meanHardness_103 C0 hR r1.2 (FP.ddiv (FP.i2d x1) (FP.i2d x2)) _ _ _ hh ⟨hl.1, hl.2.1, fun _ h => nomatch h⟩
  · refine s_dconst C0 dX4_meanHardness_94 ?_
    refine s_goto (tgt := 103) C0 dX4_meanHardness_95 (by decide) ?_
    exact b_X4_meanHardness_103 C0 hR r1.2 0 _ _ _ hh ⟨hl.1, hl.2.1, fun _ h => nomatch h⟩
def f_X4_meanHardness_70 (rec6 : Sg → Int32 → Int32 → Int32 → Option (UInt64 × Sg)) (σ : Sg) (x1 : Int32) (x3 : Int32) (s0 : Int32) (s1 : Int32) : Option (UInt64 × Sg) :=
  (rec6 σ x1 (s1 + s0) (x3 + 1))
set_option maxRecDepth 100000 in
set_option maxHeartbeats 4000000 in
theorem b_X4_meanHardness_70 (C0 : Cx p l s m args meth c cX4_meanHardness 5 RX4 D cy n0) (hR : meth.sig.returnType = (some .double)) (rec6 : Sg → Int32 → Int32 → Int32 → Option (UInt64 × Sg)) (hrec6 : ∀ (σ : Sg) (x1 : Int32) (x2 : Int32) (x3 : Int32) (H : Heap) (locs : List Loc) (ls : Array Slot), Hp D cy n0 ad nT nO s σ H locs → lv_has ls 5 [(0, .ref (ad 7 0)), (1, .int x1), (2, .int x2), (3, .int x3)] → Sm (Qr below args s D cy n0 ad nT nO vD 0 0) (rec6 σ x1 x2 x3) p l e rmX4_meanHardness s m args below meth c H locs 0 0 (F0 m 6 ls [])) (σ : Sg) (x1 : Int32) (x3 : Int32) (s0 : Int32) (s1 : Int32) (H : Heap) (locs : List Loc) (ls : Array Slot) (hh : Hp D cy n0 ad nT nO s σ H locs) (hl : lv_has ls 5 [(0, .ref (ad 7 0)), (1, .int x1), (3, .int x3)]) : Sm (Qr below args s D cy n0 ad nT nO vD 0 0) (f_X4_meanHardness_70 rec6 σ x1 x3 s0 s1) p l e rmX4_meanHardness s m args below meth c H locs 0 0 (F0 m 70 ls [.int s0, .int s1]) := by
  unfold f_X4_meanHardness_70
  refine s_iadd C0 dX4_meanHardness_70 ?_
  refine s_istore_n (lv' := [(2, .int (s1 + s0)), (0, .ref (ad 7 0)), (1, .int x1), (3, .int x3)]) C0 dX4_meanHardness_71 rfl hl (by decide) rfl (fun ls hl => ?_)
  refine s_iinc (k := 3) (v := (x3 + 1)) (lv' := [(3, .int (x3 + 1)), (2, .int (s1 + s0)), (0, .ref (ad 7 0)), (1, .int x1)]) C0 dX4_meanHardness_72 hl rfl rfl (by decide) rfl (fun ls hl => ?_)
  refine s_goto (tgt := 6) C0 dX4_meanHardness_75 (by decide) ?_
  exact hrec6 σ x1 (s1 + s0) (x3 + 1) _ _ _ hh (lv_sub hl [2, 3, 1, 0] rfl)
def f_X4_meanHardness_57 (rec6 : Sg → Int32 → Int32 → Int32 → Option (UInt64 × Sg)) (σ : Sg) (x2 : Int32) (x3 : Int32) (x4 : Int32) (s0 : Int32) (s1 : Int32) : Option (UInt64 × Sg) :=
  (if (x4 : Int32) = (0 : Int32) then (f_X4_meanHardness_70 rec6 σ (s1 + s0) x3 0 x2) else (f_X4_meanHardness_70 rec6 σ (s1 + s0) x3 1 x2))
set_option maxRecDepth 100000 in
set_option maxHeartbeats 4000000 in
theorem b_X4_meanHardness_57 (C0 : Cx p l s m args meth c cX4_meanHardness 5 RX4 D cy n0) (hR : meth.sig.returnType = (some .double)) (rec6 : Sg → Int32 → Int32 → Int32 → Option (UInt64 × Sg)) (hrec6 : ∀ (σ : Sg) (x1 : Int32) (x2 : Int32) (x3 : Int32) (H : Heap) (locs : List Loc) (ls : Array Slot), Hp D cy n0 ad nT nO s σ H locs → lv_has ls 5 [(0, .ref (ad 7 0)), (1, .int x1), (2, .int x2), (3, .int x3)] → Sm (Qr below args s D cy n0 ad nT nO vD 0 0) (rec6 σ x1 x2 x3) p l e rmX4_meanHardness s m args below meth c H locs 0 0 (F0 m 6 ls [])) (σ : Sg) (x2 : Int32) (x3 : Int32) (x4 : Int32) (s0 : Int32) (s1 : Int32) (H : Heap) (locs : List Loc) (ls : Array Slot) (hh : Hp D cy n0 ad nT nO s σ H locs) (hl : lv_has ls 5 [(0, .ref (ad 7 0)), (2, .int x2), (3, .int x3), (4, .int x4)]) : Sm (Qr below args s D cy n0 ad nT nO vD 0 0) (f_X4_meanHardness_57 rec6 σ x2 x3 x4 s0 s1) p l e rmX4_meanHardness s m args below meth c H locs 0 0 (F0 m 57 ls [.int s0, .int s1]) := by
  unfold f_X4_meanHardness_57
  refine s_iadd C0 dX4_meanHardness_57 ?_
  refine s_istore_n (lv' := [(1, .int (s1 + s0)), (0, .ref (ad 7 0)), (2, .int x2), (3, .int x3), (4, .int x4)]) C0 dX4_meanHardness_58 rfl hl (by decide) rfl (fun ls hl => ?_)
  refine s_iload_n C0 dX4_meanHardness_59 rfl (lv_at hl 2 rfl) ?_
  refine s_iload C0 dX4_meanHardness_60 (lv_at hl 4 rfl) ?_
  refine s_if_eq (tgt := 69) C0 dX4_meanHardness_62 (by decide) (fun _ => ?_) (fun _ => ?_)
  · refine s_iconst (v := 0) C0 dX4_meanHardness_69 (by decide) ?_
    exact b_X4_meanHardness_70 C0 hR rec6 hrec6 σ (s1 + s0) x3 0 x2 _ _ _ hh (lv_sub hl [1, 0, 3] rfl)
  · refine s_iconst (v := 1) C0 dX4_meanHardness_65 (by decide) ?_
    refine s_goto (tgt := 70) C0 dX4_meanHardness_66 (by decide) ?_
    exact b_X4_meanHardness_70 C0 hR rec6 hrec6 σ (s1 + s0) x3 1 x2 _ _ _ hh (lv_sub hl [1, 0, 3] rfl)
def f_X4_meanHardness_39 (rec6 : Sg → Int32 → Int32 → Int32 → Option (UInt64 × Sg)) (σ : Sg) (x1 : Int32) (x2 : Int32) (x3 : Int32) (s0 : Int32) : Option (UInt64 × Sg) :=
  (if (s0 : Int32) = (0 : Int32) then (f_X4_meanHardness_57 rec6 σ x2 x3 s0 0 x1) else (if (x3 : Int32) < 0 ∨ 8 ≤ (x3 : Int32).toNatClampNeg then none else (f_X4_meanHardness_57 rec6 σ x2 x3 s0 (σ.1 8 10 (x3 : Int32).toNatClampNeg) x1)))
set_option maxRecDepth 100000 in
set_option maxHeartbeats 4000000 in
theorem b_X4_meanHardness_39 (C0 : Cx p l s m args meth c cX4_meanHardness 5 RX4 D cy n0) (hR : meth.sig.returnType = (some .double)) (rec6 : Sg → Int32 → Int32 → Int32 → Option (UInt64 × Sg)) (hrec6 : ∀ (σ : Sg) (x1 : Int32) (x2 : Int32) (x3 : Int32) (H : Heap) (locs : List Loc) (ls : Array Slot), Hp D cy n0 ad nT nO s σ H locs → lv_has ls 5 [(0, .ref (ad 7 0)), (1, .int x1), (2, .int x2), (3, .int x3)] → Sm (Qr below args s D cy n0 ad nT nO vD 0 0) (rec6 σ x1 x2 x3) p l e rmX4_meanHardness s m args below meth c H locs 0 0 (F0 m 6 ls [])) (σ : Sg) (x1 : Int32) (x2 : Int32) (x3 : Int32) (s0 : Int32) (H : Heap) (locs : List Loc) (ls : Array Slot) (hh : Hp D cy n0 ad nT nO s σ H locs) (hl : lv_has ls 5 [(0, .ref (ad 7 0)), (1, .int x1), (2, .int x2), (3, .int x3)]) : Sm (Qr below args s D cy n0 ad nT nO vD 0 0) (f_X4_meanHardness_39 rec6 σ x1 x2 x3 s0) p l e rmX4_meanHardness s m args below meth c H locs 0 0 (F0 m 39 ls [.int s0]) := by
  unfold f_X4_meanHardness_39
  refine s_istore (lv' := [(4, .int s0), (0, .ref (ad 7 0)), (1, .int x1), (2, .int x2), (3, .int x3)]) C0 dX4_meanHardness_39 hl (by decide) rfl (fun ls hl => ?_)
  refine s_iload_n C0 dX4_meanHardness_41 rfl (lv_at hl 2 rfl) ?_
  refine s_iload C0 dX4_meanHardness_42 (lv_at hl 0 rfl) ?_
  refine s_if_eq (tgt := 56) C0 dX4_meanHardness_44 (by decide) (fun _ => ?_) (fun _ => ?_)
  · refine s_iconst (v := 0) C0 dX4_meanHardness_56 (by decide) ?_
    exact b_X4_meanHardness_57 C0 hR rec6 hrec6 σ x2 x3 s0 0 x1 _ _ _ hh (lv_sub hl [1, 3, 4, 0] rfl)
  · refine s_aload_n C0 dX4_meanHardness_47 rfl (lv_at hl 1 rfl) ?_
    refine s_get (v := .ref (ad 8 10)) C0 hh (rl_b (by decide)) rfl (T := TX4) (N := 28) rfl hinX4 (by decide) w43 rfl dX4_meanHardness_48 ?_
    refine s_iload_n C0 dX4_meanHardness_51 rfl (lv_at hl 4 rfl) ?_
    refine s_iald (g := (σ.1 8 10)) C0 hh rfl (rl_b (by decide)) (fun _ => rfl) (t0 := 1) rfl dX4_meanHardness_52 ?_
    refine s_goto (tgt := 57) C0 dX4_meanHardness_53 (by decide) ?_
    exact b_X4_meanHardness_57 C0 hR rec6 hrec6 σ x2 x3 s0 (σ.1 8 10 (x3 : Int32).toNatClampNeg) x1 _ _ _ hh (lv_sub hl [1, 3, 4, 0] rfl)
def f_X4_meanHardness_38 (rec6 : Sg → Int32 → Int32 → Int32 → Option (UInt64 × Sg)) (σ : Sg) (x1 : Int32) (x2 : Int32) (x3 : Int32) : Option (UInt64 × Sg) :=
  (f_X4_meanHardness_39 rec6 σ x1 x2 x3 0)
set_option maxRecDepth 100000 in
set_option maxHeartbeats 4000000 in
theorem b_X4_meanHardness_38 (C0 : Cx p l s m args meth c cX4_meanHardness 5 RX4 D cy n0) (hR : meth.sig.returnType = (some .double)) (rec6 : Sg → Int32 → Int32 → Int32 → Option (UInt64 × Sg)) (hrec6 : ∀ (σ : Sg) (x1 : Int32) (x2 : Int32) (x3 : Int32) (H : Heap) (locs : List Loc) (ls : Array Slot), Hp D cy n0 ad nT nO s σ H locs → lv_has ls 5 [(0, .ref (ad 7 0)), (1, .int x1), (2, .int x2), (3, .int x3)] → Sm (Qr below args s D cy n0 ad nT nO vD 0 0) (rec6 σ x1 x2 x3) p l e rmX4_meanHardness s m args below meth c H locs 0 0 (F0 m 6 ls [])) (σ : Sg) (x1 : Int32) (x2 : Int32) (x3 : Int32) (H : Heap) (locs : List Loc) (ls : Array Slot) (hh : Hp D cy n0 ad nT nO s σ H locs) (hl : lv_has ls 5 [(0, .ref (ad 7 0)), (1, .int x1), (2, .int x2), (3, .int x3)]) : Sm (Qr below args s D cy n0 ad nT nO vD 0 0) (f_X4_meanHardness_38 rec6 σ x1 x2 x3) p l e rmX4_meanHardness s m args below meth c H locs 0 0 (F0 m 38 ls []) := by
  unfold f_X4_meanHardness_38
  refine s_iconst (v := 0) C0 dX4_meanHardness_38 (by decide) ?_
  exact b_X4_meanHardness_39 C0 hR rec6 hrec6 σ x1 x2 x3 0 _ _ _ hh (lv_sub hl [0, 1, 2, 3] rfl)
def g_X4_meanHardness_6 (rec6 : Sg → Int32 → Int32 → Int32 → Option (UInt64 × Sg)) (σ : Sg) (x1 : Int32) (x2 : Int32) (x3 : Int32) : Option (UInt64 × Sg) :=
  (if (σ.1 7 0 1) ≤ (x3 : Int32) then (if (x2 : Int32) = (0 : Int32) then (f_X4_meanHardness_88 σ x1 x2 1) else (f_X4_meanHardness_88 σ x1 x2 0)) else (if (x3 : Int32) < 0 ∨ 8 ≤ (x3 : Int32).toNatClampNeg then none else (if ((σ.1 8 19 (x3 : Int32).toNatClampNeg) : Int32) = (0 : Int32) then (if (x3 : Int32) < 0 ∨ 8 ≤ (x3 : Int32).toNatClampNeg then none else (if ((σ.1 8 4 (x3 : Int32).toNatClampNeg) : Int32) = (104 : Int32) then (f_X4_meanHardness_39 rec6 σ x1 x2 x3 1) else (f_X4_meanHardness_38 rec6 σ x1 x2 x3))) else (f_X4_meanHardness_38 rec6 σ x1 x2 x3))))
def f_X4_meanHardness_6 : Nat → Sg → Int32 → Int32 → Int32 → Option (UInt64 × Sg)
  | 0 => fun _ _ _ _ => none
  | n + 1 => fun σ x1 x2 x3 => g_X4_meanHardness_6 (f_X4_meanHardness_6 n) σ x1 x2 x3
set_option maxRecDepth 100000 in
set_option maxHeartbeats 4000000 in
theorem a_X4_meanHardness_6 (C0 : Cx p l s m args meth c cX4_meanHardness 5 RX4 D cy n0) (hR : meth.sig.returnType = (some .double)) (rec6 : Sg → Int32 → Int32 → Int32 → Option (UInt64 × Sg)) (hrec6 : ∀ (σ : Sg) (x1 : Int32) (x2 : Int32) (x3 : Int32) (H : Heap) (locs : List Loc) (ls : Array Slot), Hp D cy n0 ad nT nO s σ H locs → lv_has ls 5 [(0, .ref (ad 7 0)), (1, .int x1), (2, .int x2), (3, .int x3)] → Sm (Qr below args s D cy n0 ad nT nO vD 0 0) (rec6 σ x1 x2 x3) p l e rmX4_meanHardness s m args below meth c H locs 0 0 (F0 m 6 ls [])) (σ : Sg) (x1 : Int32) (x2 : Int32) (x3 : Int32) (H : Heap) (locs : List Loc) (ls : Array Slot) (hh : Hp D cy n0 ad nT nO s σ H locs) (hl : lv_has ls 5 [(0, .ref (ad 7 0)), (1, .int x1), (2, .int x2), (3, .int x3)]) : Sm (Qr below args s D cy n0 ad nT nO vD 0 0) (g_X4_meanHardness_6 rec6 σ x1 x2 x3) p l e rmX4_meanHardness s m args below meth c H locs 0 0 (F0 m 6 ls []) := by
  unfold g_X4_meanHardness_6
  refine s_iload_n C0 dX4_meanHardness_6 rfl (lv_at hl 3 rfl) ?_
  refine s_aload_n C0 dX4_meanHardness_7 rfl (lv_at hl 0 rfl) ?_
  refine s_get (v := .int (σ.1 7 0 1)) C0 hh (rl_b (by decide)) rfl (T := TX4) (N := 28) rfl hinX4 (by decide) w307 rfl dX4_meanHardness_8 ?_
  refine s_icmp_ge (tgt := 78) C0 dX4_meanHardness_11 (by decide) (fun _ => ?_) (fun _ => ?_)
  · refine s_aload_n C0 dX4_meanHardness_78 rfl (lv_at hl 0 rfl) ?_
    refine s_iload_n C0 dX4_meanHardness_79 rfl (lv_at hl 2 rfl) ?_
    refine s_if_ne (tgt := 87) C0 dX4_meanHardness_80 (by decide) (fun _ => ?_) (fun _ => ?_)
    · refine s_iconst (v := 0) C0 dX4_meanHardness_87 (by decide) ?_
      exact b_X4_meanHardness_88 C0 hR σ x1 x2 0 _ _ _ hh (lv_sub hl [1, 2] rfl)
    · refine s_iconst (v := 1) C0 dX4_meanHardness_83 (by decide) ?_
      refine s_goto (tgt := 88) C0 dX4_meanHardness_84 (by decide) ?_
      exact b_X4_meanHardness_88 C0 hR σ x1 x2 1 _ _ _ hh (lv_sub hl [1, 2] rfl)
  · refine s_aload_n C0 dX4_meanHardness_14 rfl (lv_at hl 0 rfl) ?_
    refine s_get (v := .ref (ad 8 19)) C0 hh (rl_b (by decide)) rfl (T := TX4) (N := 28) rfl hinX4 (by decide) w53 rfl dX4_meanHardness_15 ?_
    refine s_iload_n C0 dX4_meanHardness_18 rfl (lv_at hl 3 rfl) ?_
    refine s_zald (g := (σ.1 8 19)) C0 hh rfl (rl_b (by decide)) (fun _ => rfl) (t0 := 2) rfl dX4_meanHardness_19 ?_
    refine s_if_ne (tgt := 38) C0 dX4_meanHardness_20 (by decide) (fun _ => ?_) (fun _ => ?_)
    · exact b_X4_meanHardness_38 C0 hR rec6 hrec6 σ x1 x2 x3 _ _ _ hh (lv_sub hl [0, 1, 2, 3] rfl)
    · refine s_aload_n C0 dX4_meanHardness_23 rfl (lv_at hl 0 rfl) ?_
      refine s_get (v := .ref (ad 8 4)) C0 hh (rl_b (by decide)) rfl (T := TX4) (N := 28) rfl hinX4 (by decide) w37 rfl dX4_meanHardness_24 ?_
      refine s_iload_n C0 dX4_meanHardness_27 rfl (lv_at hl 3 rfl) ?_
      refine s_cald (g := (σ.1 8 4)) C0 hh rfl (rl_b (by decide)) (fun _ => rfl) (t0 := 0) rfl dX4_meanHardness_28 ?_
      refine s_bipush (v := 104) C0 dX4_meanHardness_29 (by decide) ?_
      refine s_icmp_ne (tgt := 38) C0 dX4_meanHardness_31 (by decide) (fun _ => ?_) (fun _ => ?_)
      · exact b_X4_meanHardness_38 C0 hR rec6 hrec6 σ x1 x2 x3 _ _ _ hh (lv_sub hl [0, 1, 2, 3] rfl)
      · refine s_iconst (v := 1) C0 dX4_meanHardness_34 (by decide) ?_
        refine s_goto (tgt := 39) C0 dX4_meanHardness_35 (by decide) ?_
        exact b_X4_meanHardness_39 C0 hR rec6 hrec6 σ x1 x2 x3 1 _ _ _ hh (lv_sub hl [0, 1, 2, 3] rfl)
theorem b_X4_meanHardness_6 (C0 : Cx p l s m args meth c cX4_meanHardness 5 RX4 D cy n0) (hR : meth.sig.returnType = (some .double)) : ∀ (n : Nat) (σ : Sg) (x1 : Int32) (x2 : Int32) (x3 : Int32) (H : Heap) (locs : List Loc) (ls : Array Slot) (hh : Hp D cy n0 ad nT nO s σ H locs) (hl : lv_has ls 5 [(0, .ref (ad 7 0)), (1, .int x1), (2, .int x2), (3, .int x3)]), Sm (Qr below args s D cy n0 ad nT nO vD 0 0) (f_X4_meanHardness_6 n σ x1 x2 x3) p l e rmX4_meanHardness s m args below meth c H locs 0 0 (F0 m 6 ls []) := by
  intro n
  induction n with
  | zero => intros; intro r h; cases h
  | succ n ih => intro σ x1 x2 x3 H locs ls hh hl; exact a_X4_meanHardness_6 C0 hR (f_X4_meanHardness_6 n) ih σ x1 x2 x3 H locs ls hh hl
def f_X4_meanHardness_0 (σ : Sg) : Option (UInt64 × Sg) :=
  (f_X4_meanHardness_6 70 σ 0 0 0)
set_option maxRecDepth 100000 in
set_option maxHeartbeats 4000000 in
theorem b_X4_meanHardness_0 (C0 : Cx p l s m args meth c cX4_meanHardness 5 RX4 D cy n0) (hR : meth.sig.returnType = (some .double)) (σ : Sg) (H : Heap) (locs : List Loc) (ls : Array Slot) (hh : Hp D cy n0 ad nT nO s σ H locs) (hl : lv_has ls 5 [(0, .ref (ad 7 0))]) : Sm (Qr below args s D cy n0 ad nT nO vD 0 0) (f_X4_meanHardness_0 σ) p l e rmX4_meanHardness s m args below meth c H locs 0 0 (F0 m 0 ls []) := by
  unfold f_X4_meanHardness_0
  refine s_iconst (v := 0) C0 dX4_meanHardness_0 (by decide) ?_
  refine s_istore_n (lv' := [(1, .int 0), (0, .ref (ad 7 0))]) C0 dX4_meanHardness_1 rfl hl (by decide) rfl (fun ls hl => ?_)
  refine s_iconst (v := 0) C0 dX4_meanHardness_2 (by decide) ?_
  refine s_istore_n (lv' := [(2, .int 0), (1, .int 0), (0, .ref (ad 7 0))]) C0 dX4_meanHardness_3 rfl hl (by decide) rfl (fun ls hl => ?_)
  refine s_iconst (v := 0) C0 dX4_meanHardness_4 (by decide) ?_
  refine s_istore_n (lv' := [(3, .int 0), (2, .int 0), (1, .int 0), (0, .ref (ad 7 0))]) C0 dX4_meanHardness_5 rfl hl (by decide) rfl (fun ls hl => ?_)
  exact b_X4_meanHardness_6 C0 hR 70 σ 0 0 0 _ _ _ hh (lv_sub hl [3, 2, 1, 0] rfl)
def f_X4_meanHardness (σ : Sg) : Option (UInt64 × Sg) := f_X4_meanHardness_0 σ
set_option maxRecDepth 100000 in
set_option maxHeartbeats 4000000 in
theorem c_X4_meanHardness (hst : l.stackTraces = false) (σ : Sg) : Ct l yX4_meanHardness (wm yX4_meanHardness cX4_meanHardness 5 (some .double)) rmX4_meanHardness 0 0 vD [.ref (ad 7 0)] D cy n0 ad nT nO  σ (f_X4_meanHardness σ) := by
  intro r0 h0
  refine Met.ofW (cc := cX4_meanHardness) (maxL := 5) (ret := (some .double)) (by decide +kernel) rfl ?_
  intro p e s m args below meth c s₁ B hml hv
  obtain ⟨C0, hh, hR, rfl⟩ := ent B hml hst hv
  rw [lg_entry_eq]
  have hl := lv_entry ([.ref (ad 7 0)]) (n := 5) (Nat.le_of_ble_eq_true rfl)
  generalize (lg_sl ([.ref (ad 7 0)]) ++ List.replicate (5 - (lg_sl ([.ref (ad 7 0)])).length) Slot.unset).toArray = ls at hl ⊢
  exact b_X4_meanHardness_0 C0 hR σ _ _ _ hh hl r0 h0

def rmX4_checksum : Room := { frames := 0, cells := 0, slots := 0, locals := 0 }
def f_X4_checksum_112 (rec11 : Sg → Int64 → Int32 → Option (Int64 × Sg)) (σ : Sg) (x1 : Int64) (x3 : Int32) : Option (Int64 × Sg) :=
  (rec11 σ x1 (x3 + 1))
set_option maxRecDepth 100000 in
set_option maxHeartbeats 4000000 in
theorem b_X4_checksum_112 (C0 : Cx p l s m args meth c cX4_checksum 5 RX4 D cy n0) (hR : meth.sig.returnType = (some .long)) (rec11 : Sg → Int64 → Int32 → Option (Int64 × Sg)) (hrec11 : ∀ (σ : Sg) (x1 : Int64) (x3 : Int32) (H : Heap) (locs : List Loc) (ls : Array Slot), Hp D cy n0 ad nT nO s σ H locs → lv_has ls 5 [(0, .ref (ad 7 0)), (1, .long x1), (3, .int x3)] → Sm (Qr below args s D cy n0 ad nT nO vJ 0 0) (rec11 σ x1 x3) p l e rmX4_checksum s m args below meth c H locs 0 0 (F0 m 11 ls [])) (σ : Sg) (x1 : Int64) (x3 : Int32) (H : Heap) (locs : List Loc) (ls : Array Slot) (hh : Hp D cy n0 ad nT nO s σ H locs) (hl : lv_has ls 5 [(0, .ref (ad 7 0)), (1, .long x1), (3, .int x3)]) : Sm (Qr below args s D cy n0 ad nT nO vJ 0 0) (f_X4_checksum_112 rec11 σ x1 x3) p l e rmX4_checksum s m args below meth c H locs 0 0 (F0 m 112 ls []) := by
  unfold f_X4_checksum_112
  refine s_iinc (k := 2) (v := (x3 + 1)) (lv' := [(3, .int (x3 + 1)), (0, .ref (ad 7 0)), (1, .long x1)]) C0 dX4_checksum_112 hl rfl rfl (by decide) rfl (fun ls hl => ?_)
  refine s_goto (tgt := 11) C0 dX4_checksum_115 (by decide) ?_
  exact hrec11 σ x1 (x3 + 1) _ _ _ hh (lv_sub hl [1, 2, 0] rfl)
def g_X4_checksum_75 (rec11 : Sg → Int64 → Int32 → Option (Int64 × Sg)) (rec75 : Sg → Int64 → Int32 → Int32 → Option (Int64 × Sg)) (σ : Sg) (x1 : Int64) (x3 : Int32) (x4 : Int32) : Option (Int64 × Sg) :=
  (if (x3 : Int32) < 0 ∨ 8 ≤ (x3 : Int32).toNatClampNeg then none else (if ((60 * x3) + (σ.1 8 16 (x3 : Int32).toNatClampNeg)) ≤ (x4 : Int32) then (f_X4_checksum_112 rec11 σ x1 x3) else (if (x4 : Int32) < 0 ∨ 480 ≤ (x4 : Int32).toNatClampNeg then none else (rec75 σ ((31 * x1) + ((σ.1 8 20 (x4 : Int32).toNatClampNeg) : Int32).toInt64) x3 (x4 + 1)))))
def f_X4_checksum_75 (rec11 : Sg → Int64 → Int32 → Option (Int64 × Sg)) : Nat → Sg → Int64 → Int32 → Int32 → Option (Int64 × Sg)
  | 0 => fun _ _ _ _ => none
  | n + 1 => fun σ x1 x3 x4 => g_X4_checksum_75 rec11 (f_X4_checksum_75 rec11 n) σ x1 x3 x4
set_option maxRecDepth 100000 in
set_option maxHeartbeats 4000000 in
theorem a_X4_checksum_75 (C0 : Cx p l s m args meth c cX4_checksum 5 RX4 D cy n0) (hR : meth.sig.returnType = (some .long)) (rec11 : Sg → Int64 → Int32 → Option (Int64 × Sg)) (rec75 : Sg → Int64 → Int32 → Int32 → Option (Int64 × Sg)) (hrec11 : ∀ (σ : Sg) (x1 : Int64) (x3 : Int32) (H : Heap) (locs : List Loc) (ls : Array Slot), Hp D cy n0 ad nT nO s σ H locs → lv_has ls 5 [(0, .ref (ad 7 0)), (1, .long x1), (3, .int x3)] → Sm (Qr below args s D cy n0 ad nT nO vJ 0 0) (rec11 σ x1 x3) p l e rmX4_checksum s m args below meth c H locs 0 0 (F0 m 11 ls [])) (hrec75 : ∀ (σ : Sg) (x1 : Int64) (x3 : Int32) (x4 : Int32) (H : Heap) (locs : List Loc) (ls : Array Slot), Hp D cy n0 ad nT nO s σ H locs → lv_has ls 5 [(0, .ref (ad 7 0)), (1, .long x1), (3, .int x3), (4, .int x4)] → Sm (Qr below args s D cy n0 ad nT nO vJ 0 0) (rec75 σ x1 x3 x4) p l e rmX4_checksum s m args below meth c H locs 0 0 (F0 m 75 ls [])) (σ : Sg) (x1 : Int64) (x3 : Int32) (x4 : Int32) (H : Heap) (locs : List Loc) (ls : Array Slot) (hh : Hp D cy n0 ad nT nO s σ H locs) (hl : lv_has ls 5 [(0, .ref (ad 7 0)), (1, .long x1), (3, .int x3), (4, .int x4)]) : Sm (Qr below args s D cy n0 ad nT nO vJ 0 0) (g_X4_checksum_75 rec11 rec75 σ x1 x3 x4) p l e rmX4_checksum s m args below meth c H locs 0 0 (F0 m 75 ls []) := by
  unfold g_X4_checksum_75
  refine s_iload C0 dX4_checksum_75 (lv_at hl 3 rfl) ?_
  refine s_bipush (v := 60) C0 dX4_checksum_77 (by decide) ?_
  refine s_iload_n C0 dX4_checksum_79 rfl (lv_at hl 2 rfl) ?_
  refine s_imul C0 dX4_checksum_80 ?_
  refine s_aload_n C0 dX4_checksum_81 rfl (lv_at hl 0 rfl) ?_
  refine s_get (v := .ref (ad 8 16)) C0 hh (rl_b (by decide)) rfl (T := TX4) (N := 28) rfl hinX4 (by decide) w49 rfl dX4_checksum_82 ?_
  refine s_iload_n C0 dX4_checksum_85 rfl (lv_at hl 2 rfl) ?_
  refine s_iald (g := (σ.1 8 16)) C0 hh rfl (rl_b (by decide)) (fun _ => rfl) (t0 := 1) rfl dX4_checksum_86 ?_
  refine s_iadd C0 dX4_checksum_87 ?_
  refine s_icmp_ge (tgt := 112) C0 dX4_checksum_88 (by decide) (fun _ => ?_) (fun _ => ?_)
  · exact b_X4_checksum_112 C0 hR rec11 hrec11 σ x1 x3 _ _ _ hh (lv_sub hl [0, 1, 2] rfl)
  · refine s_ldc2 (v := 31) C0 w387 dX4_checksum_91 ?_
    refine s_lload_n C0 dX4_checksum_94 rfl (lv_at hl 1 rfl) ?_
    refine s_lmul C0 dX4_checksum_95 ?_
    refine s_aload_n C0 dX4_checksum_96 rfl (lv_at hl 0 rfl) ?_
    refine s_get (v := .ref (ad 8 20)) C0 hh (rl_b (by decide)) rfl (T := TX4) (N := 28) rfl hinX4 (by decide) w54 rfl dX4_checksum_97 ?_
    refine s_iload C0 dX4_checksum_100 (lv_at hl 3 rfl) ?_
    refine s_iald (g := (σ.1 8 20)) C0 hh rfl (rl_b (by decide)) (fun _ => rfl) (t0 := 1) rfl dX4_checksum_102 ?_
    refine s_i2l C0 dX4_checksum_103 rfl ?_
    refine s_ladd C0 dX4_checksum_104 ?_
    refine s_lstore_n (lv' := [(1, .long ((31 * x1) + ((σ.1 8 20 (x4 : Int32).toNatClampNeg) : Int32).toInt64)), (0, .ref (ad 7 0)), (3, .int x3), (4, .int x4)]) C0 dX4_checksum_105 rfl hl (by decide) rfl (fun ls hl => ?_)
    refine s_iinc (k := 3) (v := (x4 + 1)) (lv' := [(4, .int (x4 + 1)), (1, .long ((31 * x1) + ((σ.1 8 20 (x4 : Int32).toNatClampNeg) : Int32).toInt64)), (0, .ref (ad 7 0)), (3, .int x3)]) C0 dX4_checksum_106 hl rfl rfl (by decide) rfl (fun ls hl => ?_)
    refine s_goto (tgt := 75) C0 dX4_checksum_109 (by decide) ?_
    exact hrec75 σ ((31 * x1) + ((σ.1 8 20 (x4 : Int32).toNatClampNeg) : Int32).toInt64) x3 (x4 + 1) _ _ _ hh (lv_sub hl [2, 1, 3, 0] rfl)
theorem b_X4_checksum_75 (C0 : Cx p l s m args meth c cX4_checksum 5 RX4 D cy n0) (hR : meth.sig.returnType = (some .long)) (rec11 : Sg → Int64 → Int32 → Option (Int64 × Sg)) (hrec11 : ∀ (σ : Sg) (x1 : Int64) (x3 : Int32) (H : Heap) (locs : List Loc) (ls : Array Slot), Hp D cy n0 ad nT nO s σ H locs → lv_has ls 5 [(0, .ref (ad 7 0)), (1, .long x1), (3, .int x3)] → Sm (Qr below args s D cy n0 ad nT nO vJ 0 0) (rec11 σ x1 x3) p l e rmX4_checksum s m args below meth c H locs 0 0 (F0 m 11 ls [])) : ∀ (n : Nat) (σ : Sg) (x1 : Int64) (x3 : Int32) (x4 : Int32) (H : Heap) (locs : List Loc) (ls : Array Slot) (hh : Hp D cy n0 ad nT nO s σ H locs) (hl : lv_has ls 5 [(0, .ref (ad 7 0)), (1, .long x1), (3, .int x3), (4, .int x4)]), Sm (Qr below args s D cy n0 ad nT nO vJ 0 0) (f_X4_checksum_75 rec11 n σ x1 x3 x4) p l e rmX4_checksum s m args below meth c H locs 0 0 (F0 m 75 ls []) := by
  intro n
  induction n with
  | zero => intros; intro r h; cases h
  | succ n ih => intro σ x1 x3 x4 H locs ls hh hl; exact a_X4_checksum_75 C0 hR rec11 (f_X4_checksum_75 rec11 n) hrec11 ih σ x1 x3 x4 H locs ls hh hl
def g_X4_checksum_11 (rec11 : Sg → Int64 → Int32 → Option (Int64 × Sg)) (σ : Sg) (x1 : Int64) (x3 : Int32) : Option (Int64 × Sg) :=
  (if (σ.1 7 0 1) ≤ (x3 : Int32) then (some (((31 * x1) + ((σ.1 7 0 22) : Int32).toInt64), σ)) else (if (x3 : Int32) < 0 ∨ 8 ≤ (x3 : Int32).toNatClampNeg then none else (if ((σ.1 8 19 (x3 : Int32).toNatClampNeg) : Int32) = (0 : Int32) then (if (x3 : Int32) < 0 ∨ 8 ≤ (x3 : Int32).toNatClampNeg then none else (if (x3 : Int32) < 0 ∨ 8 ≤ (x3 : Int32).toNatClampNeg then none else (if (x3 : Int32) < 0 ∨ 8 ≤ (x3 : Int32).toNatClampNeg then none else (f_X4_checksum_75 rec11 70 σ ((31 * ((31 * ((31 * x1) + ((σ.1 8 6 (x3 : Int32).toNatClampNeg) : Int32).toInt64)) + ((σ.1 8 10 (x3 : Int32).toNatClampNeg) : Int32).toInt64)) + ((σ.1 8 11 (x3 : Int32).toNatClampNeg) : Int32).toInt64) x3 (60 * x3))))) else (f_X4_checksum_112 rec11 σ x1 x3))))
def f_X4_checksum_11 : Nat → Sg → Int64 → Int32 → Option (Int64 × Sg)
  | 0 => fun _ _ _ => none
  | n + 1 => fun σ x1 x3 => g_X4_checksum_11 (f_X4_checksum_11 n) σ x1 x3
set_option maxRecDepth 100000 in
set_option maxHeartbeats 4000000 in
theorem a_X4_checksum_11 (C0 : Cx p l s m args meth c cX4_checksum 5 RX4 D cy n0) (hR : meth.sig.returnType = (some .long)) (rec11 : Sg → Int64 → Int32 → Option (Int64 × Sg)) (hrec11 : ∀ (σ : Sg) (x1 : Int64) (x3 : Int32) (H : Heap) (locs : List Loc) (ls : Array Slot), Hp D cy n0 ad nT nO s σ H locs → lv_has ls 5 [(0, .ref (ad 7 0)), (1, .long x1), (3, .int x3)] → Sm (Qr below args s D cy n0 ad nT nO vJ 0 0) (rec11 σ x1 x3) p l e rmX4_checksum s m args below meth c H locs 0 0 (F0 m 11 ls [])) (σ : Sg) (x1 : Int64) (x3 : Int32) (H : Heap) (locs : List Loc) (ls : Array Slot) (hh : Hp D cy n0 ad nT nO s σ H locs) (hl : lv_has ls 5 [(0, .ref (ad 7 0)), (1, .long x1), (3, .int x3)]) : Sm (Qr below args s D cy n0 ad nT nO vJ 0 0) (g_X4_checksum_11 rec11 σ x1 x3) p l e rmX4_checksum s m args below meth c H locs 0 0 (F0 m 11 ls []) := by
  unfold g_X4_checksum_11
  refine s_iload_n C0 dX4_checksum_11 rfl (lv_at hl 2 rfl) ?_
  refine s_aload_n C0 dX4_checksum_12 rfl (lv_at hl 0 rfl) ?_
  refine s_get (v := .int (σ.1 7 0 1)) C0 hh (rl_b (by decide)) rfl (T := TX4) (N := 28) rfl hinX4 (by decide) w307 rfl dX4_checksum_13 ?_
  refine s_icmp_ge (tgt := 118) C0 dX4_checksum_16 (by decide) (fun _ => ?_) (fun _ => ?_)
  · refine s_ldc2 (v := 31) C0 w387 dX4_checksum_118 ?_
    refine s_lload_n C0 dX4_checksum_121 rfl (lv_at hl 1 rfl) ?_
    refine s_lmul C0 dX4_checksum_122 ?_
    refine s_aload_n C0 dX4_checksum_123 rfl (lv_at hl 0 rfl) ?_
    refine s_get (v := .int (σ.1 7 0 22)) C0 hh (rl_b (by decide)) rfl (T := TX4) (N := 28) rfl hinX4 (by decide) w56 rfl dX4_checksum_124 ?_
    refine s_i2l C0 dX4_checksum_127 rfl ?_
    refine s_ladd C0 dX4_checksum_128 ?_
    exact s_lret C0 hh hR (Nat.le_of_ble_eq_true rfl) (Nat.le_of_ble_eq_true rfl) dX4_checksum_129
  · refine s_aload_n C0 dX4_checksum_19 rfl (lv_at hl 0 rfl) ?_
    refine s_get (v := .ref (ad 8 19)) C0 hh (rl_b (by decide)) rfl (T := TX4) (N := 28) rfl hinX4 (by decide) w53 rfl dX4_checksum_20 ?_
    refine s_iload_n C0 dX4_checksum_23 rfl (lv_at hl 2 rfl) ?_
    refine s_zald (g := (σ.1 8 19)) C0 hh rfl (rl_b (by decide)) (fun _ => rfl) (t0 := 2) rfl dX4_checksum_24 ?_
    refine s_if_eq (tgt := 31) C0 dX4_checksum_25 (by decide) (fun _ => ?_) (fun _ => ?_)
    · refine s_ldc2 (v := 31) C0 w387 dX4_checksum_31 ?_
      refine s_ldc2 (v := 31) C0 w387 dX4_checksum_34 ?_
      refine s_ldc2 (v := 31) C0 w387 dX4_checksum_37 ?_
      refine s_lload_n C0 dX4_checksum_40 rfl (lv_at hl 1 rfl) ?_
      refine s_lmul C0 dX4_checksum_41 ?_
      refine s_aload_n C0 dX4_checksum_42 rfl (lv_at hl 0 rfl) ?_
      refine s_get (v := .ref (ad 8 6)) C0 hh (rl_b (by decide)) rfl (T := TX4) (N := 28) rfl hinX4 (by decide) w39 rfl dX4_checksum_43 ?_
      refine s_iload_n C0 dX4_checksum_46 rfl (lv_at hl 2 rfl) ?_
      refine s_iald (g := (σ.1 8 6)) C0 hh rfl (rl_b (by decide)) (fun _ => rfl) (t0 := 1) rfl dX4_checksum_47 ?_
      refine s_i2l C0 dX4_checksum_48 rfl ?_
      refine s_ladd C0 dX4_checksum_49 ?_
      refine s_lmul C0 dX4_checksum_50 ?_
      refine s_aload_n C0 dX4_checksum_51 rfl (lv_at hl 0 rfl) ?_
      refine s_get (v := .ref (ad 8 10)) C0 hh (rl_b (by decide)) rfl (T := TX4) (N := 28) rfl hinX4 (by decide) w43 rfl dX4_checksum_52 ?_
      refine s_iload_n C0 dX4_checksum_55 rfl (lv_at hl 2 rfl) ?_
      refine s_iald (g := (σ.1 8 10)) C0 hh rfl (rl_b (by decide)) (fun _ => rfl) (t0 := 1) rfl dX4_checksum_56 ?_
      refine s_i2l C0 dX4_checksum_57 rfl ?_
      refine s_ladd C0 dX4_checksum_58 ?_
      refine s_lmul C0 dX4_checksum_59 ?_
      refine s_aload_n C0 dX4_checksum_60 rfl (lv_at hl 0 rfl) ?_
      refine s_get (v := .ref (ad 8 11)) C0 hh (rl_b (by decide)) rfl (T := TX4) (N := 28) rfl hinX4 (by decide) w44 rfl dX4_checksum_61 ?_
      refine s_iload_n C0 dX4_checksum_64 rfl (lv_at hl 2 rfl) ?_
      refine s_iald (g := (σ.1 8 11)) C0 hh rfl (rl_b (by decide)) (fun _ => rfl) (t0 := 1) rfl dX4_checksum_65 ?_
      refine s_i2l C0 dX4_checksum_66 rfl ?_
      refine s_ladd C0 dX4_checksum_67 ?_
      refine s_lstore_n (lv' := [(1, .long ((31 * ((31 * ((31 * x1) + ((σ.1 8 6 (x3 : Int32).toNatClampNeg) : Int32).toInt64)) + ((σ.1 8 10 (x3 : Int32).toNatClampNeg) : Int32).toInt64)) + ((σ.1 8 11 (x3 : Int32).toNatClampNeg) : Int32).toInt64)), (0, .ref (ad 7 0)), (3, .int x3)]) C0 dX4_checksum_68 rfl hl (by decide) rfl (fun ls hl => ?_)
      refine s_bipush (v := 60) C0 dX4_checksum_69 (by decide) ?_
      refine s_iload_n C0 dX4_checksum_71 rfl (lv_at hl 2 rfl) ?_
      refine s_imul C0 dX4_checksum_72 ?_
      refine s_istore (lv' := [(4, .int (60 * x3)), (1, .long ((31 * ((31 * ((31 * x1) + ((σ.1 8 6 (x3 : Int32).toNatClampNeg) : Int32).toInt64)) + ((σ.1 8 10 (x3 : Int32).toNatClampNeg) : Int32).toInt64)) + ((σ.1 8 11 (x3 : Int32).toNatClampNeg) : Int32).toInt64)), (0, .ref (ad 7 0)), (3, .int x3)]) C0 dX4_checksum_73 hl (by decide) rfl (fun ls hl => ?_)
      exact b_X4_checksum_75 C0 hR rec11 hrec11 70 σ ((31 * ((31 * ((31 * x1) + ((σ.1 8 6 (x3 : Int32).toNatClampNeg) : Int32).toInt64)) + ((σ.1 8 10 (x3 : Int32).toNatClampNeg) : Int32).toInt64)) + ((σ.1 8 11 (x3 : Int32).toNatClampNeg) : Int32).toInt64) x3 (60 * x3) _ _ _ hh (lv_sub hl [2, 1, 3, 0] rfl)
    · refine s_goto (tgt := 112) C0 dX4_checksum_28 (by decide) ?_
      exact b_X4_checksum_112 C0 hR rec11 hrec11 σ x1 x3 _ _ _ hh (lv_sub hl [0, 1, 2] rfl)
theorem b_X4_checksum_11 (C0 : Cx p l s m args meth c cX4_checksum 5 RX4 D cy n0) (hR : meth.sig.returnType = (some .long)) : ∀ (n : Nat) (σ : Sg) (x1 : Int64) (x3 : Int32) (H : Heap) (locs : List Loc) (ls : Array Slot) (hh : Hp D cy n0 ad nT nO s σ H locs) (hl : lv_has ls 5 [(0, .ref (ad 7 0)), (1, .long x1), (3, .int x3)]), Sm (Qr below args s D cy n0 ad nT nO vJ 0 0) (f_X4_checksum_11 n σ x1 x3) p l e rmX4_checksum s m args below meth c H locs 0 0 (F0 m 11 ls []) := by
  intro n
  induction n with
  | zero => intros; intro r h; cases h
  | succ n ih => intro σ x1 x3 H locs ls hh hl; exact a_X4_checksum_11 C0 hR (f_X4_checksum_11 n) ih σ x1 x3 H locs ls hh hl
def f_X4_checksum_0 (σ : Sg) : Option (Int64 × Sg) :=
  (f_X4_checksum_11 70 (sv σ 7 0 0 0) 7 0)
set_option maxRecDepth 100000 in
set_option maxHeartbeats 4000000 in
theorem b_X4_checksum_0 (C0 : Cx p l s m args meth c cX4_checksum 5 RX4 D cy n0) (hR : meth.sig.returnType = (some .long)) (σ : Sg) (H : Heap) (locs : List Loc) (ls : Array Slot) (hh : Hp D cy n0 ad nT nO s σ H locs) (hl : lv_has ls 5 [(0, .ref (ad 7 0))]) : Sm (Qr below args s D cy n0 ad nT nO vJ 0 0) (f_X4_checksum_0 σ) p l e rmX4_checksum s m args below meth c H locs 0 0 (F0 m 0 ls []) := by
  unfold f_X4_checksum_0
  refine s_aload_n C0 dX4_checksum_0 rfl (lv_at hl 0 rfl) ?_
  refine s_iconst (v := 0) C0 dX4_checksum_1 (by decide) ?_
  refine s_put C0 hh (rl_b (by decide)) rfl rfl (T := TX4) (N := 28) rfl hinX4 tyX4 tyX4_ok nmX4 (by decide) w306 rfl (ty := .int) (by decide +kernel) rfl rfl (Nat.le_of_ble_eq_true rfl) (by decide) (by decide) (by decide) dX4_checksum_2 (fun H locs hh => ?_)
  refine s_ldc2 (v := 7) C0 w386 dX4_checksum_5 ?_
  refine s_lstore_n (lv' := [(1, .long 7), (0, .ref (ad 7 0))]) C0 dX4_checksum_8 rfl hl (by decide) rfl (fun ls hl => ?_)
  refine s_iconst (v := 0) C0 dX4_checksum_9 (by decide) ?_
  refine s_istore_n (lv' := [(3, .int 0), (1, .long 7), (0, .ref (ad 7 0))]) C0 dX4_checksum_10 rfl hl (by decide) rfl (fun ls hl => ?_)
  exact b_X4_checksum_11 C0 hR 70 (sv σ 7 0 0 0) 7 0 _ _ _ hh (lv_sub hl [2, 1, 0] rfl)
def f_X4_checksum (σ : Sg) : Option (Int64 × Sg) := f_X4_checksum_0 σ
set_option maxRecDepth 100000 in
set_option maxHeartbeats 4000000 in
theorem c_X4_checksum (hst : l.stackTraces = false) (σ : Sg) : Ct l yX4_checksum (wm yX4_checksum cX4_checksum 5 (some .long)) rmX4_checksum 0 0 vJ [.ref (ad 7 0)] D cy n0 ad nT nO  σ (f_X4_checksum σ) := by
  intro r0 h0
  refine Met.ofW (cc := cX4_checksum) (maxL := 5) (ret := (some .long)) (by decide +kernel) rfl ?_
  intro p e s m args below meth c s₁ B hml hv
  obtain ⟨C0, hh, hR, rfl⟩ := ent B hml hst hv
  rw [lg_entry_eq]
  have hl := lv_entry ([.ref (ad 7 0)]) (n := 5) (Nat.le_of_ble_eq_true rfl)
  generalize (lg_sl ([.ref (ad 7 0)]) ++ List.replicate (5 - (lg_sl ([.ref (ad 7 0)])).length) Slot.unset).toArray = ls at hl ⊢
  exact b_X4_checksum_0 C0 hR σ _ _ _ hh hl r0 h0

def rmX4_isSound : Room := { frames := 0, cells := 0, slots := 0, locals := 0 }
def f_X4_isSound_0 (σ : Sg) : Option (Int32 × Sg) :=
  (some (1, (sv σ 7 0 0 0)))
set_option maxRecDepth 100000 in
set_option maxHeartbeats 4000000 in
theorem b_X4_isSound_0 (C0 : Cx p l s m args meth c cX4_isSound 1 RX4 D cy n0) (hR : meth.sig.returnType = (some .boolean)) (σ : Sg) (H : Heap) (locs : List Loc) (ls : Array Slot) (hh : Hp D cy n0 ad nT nO s σ H locs) (hl : lv_has ls 1 [(0, .ref (ad 7 0))]) : Sm (Qr below args s D cy n0 ad nT nO vI 0 0) (f_X4_isSound_0 σ) p l e rmX4_isSound s m args below meth c H locs 0 0 (F0 m 0 ls []) := by
  unfold f_X4_isSound_0
  refine s_aload_n C0 dX4_isSound_0 rfl (lv_at hl 0 rfl) ?_
  refine s_iconst (v := 0) C0 dX4_isSound_1 (by decide) ?_
  refine s_put C0 hh (rl_b (by decide)) rfl rfl (T := TX4) (N := 28) rfl hinX4 tyX4 tyX4_ok nmX4 (by decide) w306 rfl (ty := .int) (by decide +kernel) rfl rfl (Nat.le_of_ble_eq_true rfl) (by decide) (by decide) (by decide) dX4_isSound_2 (fun H locs hh => ?_)
  refine s_iconst (v := 1) C0 dX4_isSound_5 (by decide) ?_
  exact s_iret C0 hh hR narrow_b1 (Nat.le_of_ble_eq_true rfl) (Nat.le_of_ble_eq_true rfl) dX4_isSound_6
def f_X4_isSound (σ : Sg) : Option (Int32 × Sg) := f_X4_isSound_0 σ
set_option maxRecDepth 100000 in
set_option maxHeartbeats 4000000 in
theorem c_X4_isSound (hst : l.stackTraces = false) (σ : Sg) : Ct l yX4_isSound (wm yX4_isSound cX4_isSound 1 (some .boolean)) rmX4_isSound 0 0 vI [.ref (ad 7 0)] D cy n0 ad nT nO  σ (f_X4_isSound σ) := by
  intro r0 h0
  refine Met.ofW (cc := cX4_isSound) (maxL := 1) (ret := (some .boolean)) (by decide +kernel) rfl ?_
  intro p e s m args below meth c s₁ B hml hv
  obtain ⟨C0, hh, hR, rfl⟩ := ent B hml hst hv
  rw [lg_entry_eq]
  have hl := lv_entry ([.ref (ad 7 0)]) (n := 1) (Nat.le_of_ble_eq_true rfl)
  generalize (lg_sl ([.ref (ad 7 0)]) ++ List.replicate (1 - (lg_sl ([.ref (ad 7 0)])).length) Slot.unset).toArray = ls at hl ⊢
  exact b_X4_isSound_0 C0 hR σ _ _ _ hh hl r0 h0
end
