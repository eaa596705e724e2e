/-! the law's function over a script of at most one call: every answer of the fresh class is the fresh reference's -/
theorem bd {α β : Type} {o : Option α} {k : α → Option β} {a : α} {r : Option β} (h : o = some a) (hk : k a = r) : o.bind k = r := by rw [h]; exact hk
theorem bxr {ρ β : Type} {o : Option ((Nat ⊕ ρ) × Sg)} {k : ρ × Sg → Option β} {h : Nat × Sg → Option β} {v : ρ} {τ : Sg} {r : Option β} (ho : o = some (.inr v, τ)) (hk : k (v, τ) = r) : bx o k h = r := by rw [ho]; exact hk
theorem bxl {ρ β : Type} {o : Option ((Nat ⊕ ρ) × Sg)} {k : ρ × Sg → Option β} {h : Nat × Sg → Option β} {v : Nat} {τ : Sg} {r : Option β} (ho : o = some (.inl v, τ)) (hk : h (v, τ) = r) : bx o k h = r := by rw [ho]; exact hk
theorem one_ne : ¬ (1 : Int32) = 0 := by decide
theorem ix_lt {a : Int32} (N : Nat) (hN : N < 2 ^ 31) (h1 : ¬ a < 0) (h2 : ¬ nI N ≤ a) : ¬ (a < 0 ∨ N ≤ a.toNatClampNeg) := by
  obtain ⟨n, hn, rfl⟩ := nI_of h1
  rw [nI_clamp hn]
  rw [nI_leI hN hn] at h2
  exact fun h => h.elim h1 h2
theorem t_none (a : Int32) : f_X3_needTool sg0 a = some (.inl 1, sg0) := by
  unfold f_X3_needTool f_X3_needTool_0
  by_cases h1 : a < 0
  · rw [if_pos h1]
  · rw [if_neg h1]
    by_cases h2 : 8 ≤ a
    · rw [if_pos h2]
    · rw [if_neg h2, if_neg (ix_lt 8 (by decide) h1 h2)]
      exact if_pos rfl
theorem o_none (a : Int32) : f_X3_needOrder sg0 a = some (.inl 1, sg0) := by
  unfold f_X3_needOrder f_X3_needOrder_0
  by_cases h1 : a < 0
  · rw [if_pos h1]
  · rw [if_neg h1]
    by_cases h2 : 6 ≤ a
    · rw [if_pos h2]
    · rw [if_neg h2, if_neg (ix_lt 6 (by decide) h1 h2)]
      exact if_pos rfl
theorem m_bt (σ : Sg) (v lo hi : Int32) : f_X4_isBetween σ v lo hi = some (if v < lo ∨ hi < v then 0 else 1, σ) := by
  unfold f_X4_isBetween f_X4_isBetween_0
  by_cases h1 : v < lo
  · rw [if_pos h1, if_pos (Or.inl h1)]
  · rw [if_neg h1]
    by_cases h2 : hi < v
    · rw [if_pos h2, if_pos (Or.inr h2)]
    · rw [if_neg h2, if_neg (fun h => h.elim h1 h2)]
theorem neg_lt {a : Int32} : a < 0 ∨ ((0 : Int32) - 1) < a := by
  by_cases h1 : a < 0
  · exact Or.inl h1
  · obtain ⟨n, hn, rfl⟩ := nI_of h1
    refine Or.inr ?_
    rw [Int32.lt_iff_toInt_lt, nI_toInt hn, show ((0 : Int32) - 1).toInt = -1 by decide]
    omega
theorem w_1 (σ : Sg) : f_X4_isWrong σ 1 = some (1, sv σ 7 0 0 1) := by
  unfold f_X4_isWrong f_X4_isWrong_0
  rw [if_neg (by decide)]
theorem w_0 (σ : Sg) : f_X4_isWrong σ 0 = some (0, sv σ 7 0 0 0) := by
  unfold f_X4_isWrong f_X4_isWrong_0
  rw [if_pos (by decide)]
theorem n_none (a : Int32) : f_X4_isNone sg0 a = some (1, sv sg0 7 0 0 1) := by
  unfold f_X4_isNone f_X4_isNone_0
  refine bd (m_bt _ _ _ _) ?_
  dsimp only
  rw [if_pos (show a < 0 ∨ (sg0.1 7 0 1 - 1) < a from neg_lt), if_pos rfl]
  unfold f_X4_isNone_28 f_X4_isNone_29
  refine bd (w_1 _) ?_
  dsimp only
  rw [if_pos (Or.inr rfl)]
theorem q_none (a : Int32) : f_X4_isNoOrder sg0 a = some (1, sv sg0 7 0 0 1) := by
  unfold f_X4_isNoOrder f_X4_isNoOrder_0
  refine bd (m_bt _ _ _ _) ?_
  dsimp only
  rw [if_pos (show a < 0 ∨ (sg0.1 7 0 23 - 1) < a from neg_lt), if_pos rfl]
  unfold f_X4_isNoOrder_20
  refine bd (w_1 _) ?_
  dsimp only
  rw [if_pos (Or.inr rfl)]
theorem nn_none (a b : Int32) : f_X4_isNoTooth sg0 a b = some (1, sv sg0 7 0 0 1) := by
  unfold f_X4_isNoTooth f_X4_isNoTooth_0
  refine bd (n_none _) ?_
  dsimp only
  rw [if_neg one_ne]
  first | done | rfl
theorem thr (σ : Sg) : f_X4_thrown σ = some (σ.1 7 0 0, σ) := rfl
theorem t1 : (sv sg0 7 0 0 1).1 7 0 0 = 1 := rfl
theorem i1 : ¬ (((0 + 1) : Int32) < 0 ∨ 5 ≤ ((0 + 1) : Int32).toNatClampNeg) := by decide
theorem i2 : ¬ (((0 + 2) : Int32) < 0 ∨ 5 ≤ ((0 + 2) : Int32).toNatClampNeg) := by decide
theorem i3 : ¬ (((0 + 3) : Int32) < 0 ∨ 5 ≤ ((0 + 3) : Int32).toNatClampNeg) := by decide
theorem i4 : ¬ (((0 + 4) : Int32) < 0 ∨ 5 ≤ ((0 + 4) : Int32).toNatClampNeg) := by decide
theorem X_cut (a b c : Int32) : f_X3_cut sg0 a b c = some (.inl 1, sg0) := by
  unfold f_X3_cut f_X3_cut_0
  exact bxl (t_none _) rfl
theorem L_cut (a b c : Int32) : f_L_cut sg0 a b c = some (1, sg0) := by
  unfold f_L_cut
  exact bxl (X_cut a b c) rfl
theorem M_cut (a b c : Int32) : f_X4_cut sg0 a b c = some (0, sv sg0 7 0 0 1) := by
  unfold f_X4_cut f_X4_cut_0
  refine bd (n_none _) ?_
  dsimp only
  rw [if_neg one_ne]
  first | done | rfl
theorem X_upcut (a : Int32) : f_X3_upcut sg0 a = some (.inl 1, sg0) := by
  unfold f_X3_upcut f_X3_upcut_0
  exact bxl (t_none _) rfl
theorem L_upcut (a : Int32) : f_L_upcut sg0 a = some (1, sg0) := by
  unfold f_L_upcut
  exact bxl (X_upcut a) rfl
theorem M_upcut (a : Int32) : f_X4_upcut sg0 a = some (0, sv sg0 7 0 0 1) := by
  unfold f_X4_upcut f_X4_upcut_0
  refine bd (n_none _) ?_
  dsimp only
  rw [if_neg one_ne]
  first | done | rfl
theorem X_teeth (a : Int32) : f_X3_teeth sg0 a = some (.inl 1, sg0) := by
  unfold f_X3_teeth f_X3_teeth_0
  exact bxl (t_none _) rfl
theorem L_teeth (a : Int32) : f_L_teeth sg0 a = some (1, sg0) := by
  unfold f_L_teeth
  exact bxl (X_teeth a) rfl
theorem M_teeth (a : Int32) : f_X4_teeth sg0 a = some (0, sv sg0 7 0 0 1) := by
  unfold f_X4_teeth f_X4_teeth_0
  refine bd (n_none _) ?_
  dsimp only
  rw [if_neg one_ne]
  first | done | rfl
theorem X_place (a b : Int32) : f_X3_place sg0 a b = some (.inl 1, sg0) := by
  unfold f_X3_place f_X3_place_0
  exact bxl (t_none _) rfl
theorem L_place (a b : Int32) : f_L_place sg0 a b = some (1, sg0) := by
  unfold f_L_place
  exact bxl (X_place a b) rfl
theorem M_place (a b : Int32) : f_X4_place sg0 a b = some (0, sv sg0 7 0 0 1) := by
  unfold f_X4_place f_X4_place_0
  refine bd (nn_none _ _) ?_
  dsimp only
  rw [if_neg one_ne]
  first | done | rfl
theorem X_height (a b : Int32) : f_X3_height sg0 a b = some (.inl 1, sg0) := by
  unfold f_X3_height f_X3_height_0
  exact bxl (t_none _) rfl
theorem L_height (a b : Int32) : f_L_height sg0 a b = some (1, sg0) := by
  unfold f_L_height
  exact bxl (X_height a b) rfl
theorem M_height (a b : Int32) : f_X4_height sg0 a b = some (0, sv sg0 7 0 0 1) := by
  unfold f_X4_height f_X4_height_0
  refine bd (nn_none _ _) ?_
  dsimp only
  rw [if_neg one_ne]
  first | done | rfl
theorem X_wear (a b : Int32) : f_X3_wear sg0 a b = some (.inl 1, sg0) := by
  unfold f_X3_wear f_X3_wear_0
  exact bxl (t_none _) rfl
theorem L_wear (a b : Int32) : f_L_wear sg0 a b = some (1, sg0) := by
  unfold f_L_wear
  exact bxl (X_wear a b) rfl
theorem M_wear (a b : Int32) : f_X4_wear sg0 a b = some (0, sv sg0 7 0 0 1) := by
  unfold f_X4_wear f_X4_wear_0
  refine bd (nn_none _ _) ?_
  dsimp only
  rw [if_neg one_ne]
  first | done | rfl
theorem X_sings (a : Int32) : f_X3_sings sg0 a = some (.inl 1, sg0) := by
  unfold f_X3_sings f_X3_sings_0
  exact bxl (t_none _) rfl
theorem L_sings (a : Int32) : f_L_sings sg0 a = some (1, sg0) := by
  unfold f_L_sings
  exact bxl (X_sings a) rfl
theorem M_sings (a : Int32) : f_X4_sings sg0 a = some (0, sv sg0 7 0 0 1) := by
  unfold f_X4_sings f_X4_sings_0
  refine bd (n_none _) ?_
  dsimp only
  rw [if_neg one_ne]
  first | done | rfl
theorem X_set (a b : Int32) : f_X3_set sg0 a b = some (.inl 1, sg0) := by
  unfold f_X3_set f_X3_set_0
  exact bxl (t_none _) rfl
theorem L_set (a b : Int32) : f_L_set sg0 a b = some (1, sg0) := by
  unfold f_L_set
  exact bxl (X_set a b) rfl
theorem M_set (a b : Int32) : f_X4_set sg0 a b = some (0, sv sg0 7 0 0 1) := by
  unfold f_X4_set f_X4_set_0
  refine bd (n_none _) ?_
  dsimp only
  rw [if_neg one_ne]
  first | done | rfl
theorem X_kerf (a : Int32) : f_X3_kerf sg0 a = some (.inl 1, sg0) := by
  unfold f_X3_kerf f_X3_kerf_0
  exact bxl (t_none _) rfl
theorem L_kerf (a : Int32) : f_L_kerf sg0 a = some (1, sg0) := by
  unfold f_L_kerf
  exact bxl (X_kerf a) rfl
theorem M_kerf (a : Int32) : f_X4_kerf sg0 a = some (0, sv sg0 7 0 0 1) := by
  unfold f_X4_kerf f_X4_kerf_0
  refine bd (n_none _) ?_
  dsimp only
  rw [if_neg one_ne]
  first | done | rfl
theorem X_gullets (a : Int32) : f_X3_gullets sg0 a = some (.inl 1, sg0) := by
  unfold f_X3_gullets f_X3_gullets_0
  exact bxl (t_none _) rfl
theorem L_gullets (a : Int32) : f_L_gullets sg0 a = some (1, sg0) := by
  unfold f_L_gullets
  exact bxl (X_gullets a) rfl
theorem M_gullets (a : Int32) : f_X4_gullets sg0 a = some (0, sv sg0 7 0 0 1) := by
  unfold f_X4_gullets f_X4_gullets_0
  refine bd (n_none _) ?_
  dsimp only
  rw [if_neg one_ne]
  first | done | rfl
theorem X_thickness (a : Int32) : f_X3_thickness sg0 a = some (.inl 1, sg0) := by
  unfold f_X3_thickness f_X3_thickness_0
  exact bxl (t_none _) rfl
theorem L_thickness (a : Int32) : f_L_thickness sg0 a = some (1, sg0) := by
  unfold f_L_thickness
  exact bxl (X_thickness a) rfl
theorem M_thickness (a : Int32) : f_X4_thickness sg0 a = some (0, sv sg0 7 0 0 1) := by
  unfold f_X4_thickness f_X4_thickness_0
  refine bd (n_none _) ?_
  dsimp only
  rw [if_neg one_ne]
  first | done | rfl
theorem X_state (a : Int32) : f_X3_state sg0 a = some (.inl 1, sg0) := by
  unfold f_X3_state f_X3_state_0
  exact bxl (t_none _) rfl
theorem L_state (a : Int32) : f_L_state sg0 a = some (1, sg0) := by
  unfold f_L_state
  exact bxl (X_state a) rfl
theorem M_state (a : Int32) : f_X4_state sg0 a = some (0, sv sg0 7 0 0 1) := by
  unfold f_X4_state f_X4_state_0
  refine bd (n_none _) ?_
  dsimp only
  rw [if_neg one_ne]
  first | done | rfl
theorem X_harden (a b c : Int32) : f_X3_harden sg0 a b c = some (.inl 1, sg0) := by
  unfold f_X3_harden f_X3_harden_0
  exact bxl (t_none _) rfl
theorem L_harden (a b c : Int32) : f_L_harden sg0 a b c = some (1, sg0) := by
  unfold f_L_harden
  exact bxl (X_harden a b c) rfl
theorem M_harden (a b c : Int32) : f_X4_harden sg0 a b c = some (0, sv sg0 7 0 0 1) := by
  unfold f_X4_harden f_X4_harden_0
  refine bd (n_none _) ?_
  dsimp only
  rw [if_neg one_ne]
  first | done | rfl
theorem X_hardness (a : Int32) : f_X3_hardness sg0 a = some (.inl 1, sg0) := by
  unfold f_X3_hardness f_X3_hardness_0
  exact bxl (t_none _) rfl
theorem L_hardness (a : Int32) : f_L_hardness sg0 a = some (1, sg0) := by
  unfold f_L_hardness
  exact bxl (X_hardness a) rfl
theorem M_hardness (a : Int32) : f_X4_hardness sg0 a = some (0, sv sg0 7 0 0 1) := by
  unfold f_X4_hardness f_X4_hardness_0
  refine bd (n_none _) ?_
  dsimp only
  rw [if_neg one_ne]
  first | done | rfl
theorem X_bend (a : Int32) : f_X3_bend sg0 a = some (.inl 1, sg0) := by
  unfold f_X3_bend f_X3_bend_0
  exact bxl (t_none _) rfl
theorem L_bend (a : Int32) : f_L_bend sg0 a = some (1, sg0) := by
  unfold f_L_bend
  exact bxl (X_bend a) rfl
theorem M_bend (a : Int32) : f_X4_bend sg0 a = some (0, sv sg0 7 0 0 1) := by
  unfold f_X4_bend f_X4_bend_0
  refine bd (n_none _) ?_
  dsimp only
  rw [if_neg one_ne]
  first | done | rfl
theorem X_temper (a b : Int32) : f_X3_temper sg0 a b = some (.inl 1, sg0) := by
  unfold f_X3_temper f_X3_temper_0
  exact bxl (t_none _) rfl
theorem L_temper (a b : Int32) : f_L_temper sg0 a b = some (1, sg0) := by
  unfold f_L_temper
  exact bxl (X_temper a b) rfl
theorem M_temper (a b : Int32) : f_X4_temper sg0 a b = some (0, sv sg0 7 0 0 1) := by
  unfold f_X4_temper f_X4_temper_0
  refine bd (n_none _) ?_
  dsimp only
  rw [if_neg one_ne]
  first | done | rfl
theorem X_straighten (a b : Int32) : f_X3_straighten sg0 a b = some (.inl 1, sg0) := by
  unfold f_X3_straighten f_X3_straighten_0
  exact bxl (t_none _) rfl
theorem L_straighten (a b : Int32) : f_L_straighten sg0 a b = some (1, sg0) := by
  unfold f_L_straighten
  exact bxl (X_straighten a b) rfl
theorem M_straighten (a b : Int32) : f_X4_straighten sg0 a b = some (0, sv sg0 7 0 0 1) := by
  unfold f_X4_straighten f_X4_straighten_0
  refine bd (n_none _) ?_
  dsimp only
  rw [if_neg one_ne]
  first | done | rfl
theorem X_strokes (a b c : Int32) : f_X3_strokes sg0 a b c = some (.inl 1, sg0) := by
  unfold f_X3_strokes f_X3_strokes_0
  exact bxl (t_none _) rfl
theorem L_strokes (a b c : Int32) : f_L_strokes sg0 a b c = some (1, sg0) := by
  unfold f_L_strokes
  exact bxl (X_strokes a b c) rfl
theorem M_strokes (a b c : Int32) : f_X4_strokes sg0 a b c = some (0, sv sg0 7 0 0 1) := by
  unfold f_X4_strokes f_X4_strokes_0
  refine bd (n_none _) ?_
  dsimp only
  rw [if_neg one_ne]
  first | done | rfl
theorem X_chips (a : Int32) : f_X3_chips sg0 a = some (.inl 1, sg0) := by
  unfold f_X3_chips f_X3_chips_0
  exact bxl (t_none _) rfl
theorem L_chips (a : Int32) : f_L_chips sg0 a = some (1, sg0) := by
  unfold f_L_chips
  exact bxl (X_chips a) rfl
theorem M_chips (a : Int32) : f_X4_chips sg0 a = some (0, sv sg0 7 0 0 1) := by
  unfold f_X4_chips f_X4_chips_0
  refine bd (n_none _) ?_
  dsimp only
  rw [if_neg one_ne]
  first | done | rfl
theorem X_brush (a : Int32) : f_X3_brush sg0 a = some (.inl 1, sg0) := by
  unfold f_X3_brush f_X3_brush_0
  exact bxl (t_none _) rfl
theorem L_brush (a : Int32) : f_L_brush sg0 a = some (1, sg0) := by
  unfold f_L_brush
  exact bxl (X_brush a) rfl
theorem M_brush (a : Int32) : f_X4_brush sg0 a = some (0, sv sg0 7 0 0 1) := by
  unfold f_X4_brush f_X4_brush_0
  refine bd (n_none _) ?_
  dsimp only
  rw [if_neg one_ne]
  first | done | rfl
theorem X_work (a : Int32) : f_X3_work sg0 a = some (.inl 1, sg0) := by
  unfold f_X3_work f_X3_work_0
  exact bxl (t_none _) rfl
theorem L_work (a : Int32) : f_L_work sg0 a = some (1, sg0) := by
  unfold f_L_work
  exact bxl (X_work a) rfl
theorem M_work (a : Int32) : f_X4_work sg0 a = some (0, sv sg0 7 0 0 1) := by
  unfold f_X4_work f_X4_work_0
  refine bd (n_none _) ?_
  dsimp only
  rw [if_neg one_ne]
  first | done | rfl
theorem X_soften (a : Int32) : f_X3_soften sg0 a = some (.inl 1, sg0) := by
  unfold f_X3_soften f_X3_soften_0
  exact bxl (t_none _) rfl
theorem L_soften (a : Int32) : f_L_soften sg0 a = some (1, sg0) := by
  unfold f_L_soften
  exact bxl (X_soften a) rfl
theorem M_soften (a : Int32) : f_X4_soften sg0 a = some (0, sv sg0 7 0 0 1) := by
  unfold f_X4_soften f_X4_soften_0
  refine bd (n_none _) ?_
  dsimp only
  rw [if_neg one_ne]
  first | done | rfl
theorem X_grind (a : Int32) : f_X3_grind sg0 a = some (.inl 1, sg0) := by
  unfold f_X3_grind f_X3_grind_0
  exact bxl (t_none _) rfl
theorem L_grind (a : Int32) : f_L_grind sg0 a = some (1, sg0) := by
  unfold f_L_grind
  exact bxl (X_grind a) rfl
theorem M_grind (a : Int32) : f_X4_grind sg0 a = some (0, sv sg0 7 0 0 1) := by
  unfold f_X4_grind f_X4_grind_0
  refine bd (n_none _) ?_
  dsimp only
  rw [if_neg one_ne]
  first | done | rfl
theorem X_recuts (a : Int32) : f_X3_recuts sg0 a = some (.inl 1, sg0) := by
  unfold f_X3_recuts f_X3_recuts_0
  exact bxl (t_none _) rfl
theorem L_recuts (a : Int32) : f_L_recuts sg0 a = some (1, sg0) := by
  unfold f_L_recuts
  exact bxl (X_recuts a) rfl
theorem M_recuts (a : Int32) : f_X4_recuts sg0 a = some (0, sv sg0 7 0 0 1) := by
  unfold f_X4_recuts f_X4_recuts_0
  refine bd (n_none _) ?_
  dsimp only
  rw [if_neg one_ne]
  first | done | rfl
theorem X_recutsLeft (a b : Int32) : f_X3_recutsLeft sg0 a b = some (.inl 1, sg0) := by
  unfold f_X3_recutsLeft f_X3_recutsLeft_0
  exact bxl (t_none _) rfl
theorem L_recutsLeft (a b : Int32) : f_L_recutsLeft sg0 a b = some (1, sg0) := by
  unfold f_L_recutsLeft
  exact bxl (X_recutsLeft a b) rfl
theorem M_recutsLeft (a b : Int32) : f_X4_recutsLeft sg0 a b = some (0, sv sg0 7 0 0 1) := by
  unfold f_X4_recutsLeft f_X4_recutsLeft_0
  refine bd (n_none _) ?_
  dsimp only
  rw [if_neg one_ne]
  first | done | rfl
theorem X_isGood (a b : Int32) : f_X3_isGood sg0 a b = some (.inl 1, sg0) := by
  unfold f_X3_isGood f_X3_isGood_0
  exact bxl (t_none _) rfl
theorem L_isGood (a b : Int32) : f_L_isGood sg0 a b = some (1, sg0) := by
  unfold f_L_isGood
  exact bxl (X_isGood a b) rfl
theorem M_isGood (a b : Int32) : f_X4_isGood sg0 a b = some (0, sv sg0 7 0 0 1) := by
  unfold f_X4_isGood f_X4_isGood_0
  refine bd (n_none _) ?_
  dsimp only
  rw [if_neg one_ne]
  first | done | rfl
theorem X_send (a b : Int32) : f_X3_send sg0 a b = some (.inl 1, sg0) := by
  unfold f_X3_send f_X3_send_0
  exact bxl (t_none _) rfl
theorem L_send (a b : Int32) : f_L_send sg0 a b = some (1, sg0) := by
  unfold f_L_send
  exact bxl (X_send a b) rfl
theorem M_send (a b : Int32) : f_X4_send sg0 a b = some (0, sv sg0 7 0 0 1) := by
  unfold f_X4_send f_X4_send_0
  refine bd (n_none _) ?_
  dsimp only
  rw [if_neg one_ne]
  first | done | rfl
theorem X_sent (a : Int32) : f_X3_sent sg0 a = some (.inl 1, sg0) := by
  unfold f_X3_sent f_X3_sent_0
  exact bxl (o_none _) rfl
theorem L_sent (a : Int32) : f_L_sent sg0 a = some (1, sg0) := by
  unfold f_L_sent
  exact bxl (X_sent a) rfl
theorem M_sent (a : Int32) : f_X4_sent sg0 a = some (0, sv sg0 7 0 0 1) := by
  unfold f_X4_sent f_X4_sent_0
  refine bd (q_none _) ?_
  dsimp only
  rw [if_neg one_ne]
  first | done | rfl
theorem c_shape (σ : Sg) (x : Int32) : f_X3_needShape σ x = if x = 102 ∨ x = 104 ∨ x = 115 then some (.inr (), σ) else some (.inl 2, σ) := by
  unfold f_X3_needShape f_X3_needShape_0
  by_cases h1 : x = 102 <;> by_cases h2 : x = 104 <;> by_cases h3 : x = 115 <;> simp [h1, h2, h3]
theorem m_shape (σ : Sg) (x : Int32) : f_X4_isShape σ x = some (if x = 102 ∨ x = 104 ∨ x = 115 then 1 else 0, σ) := by
  unfold f_X4_isShape f_X4_isShape_0 f_X4_isShape_18
  by_cases h1 : x = 102 <;> by_cases h2 : x = 104 <;> by_cases h3 : x = 115 <;> simp [h1, h2, h3]
theorem c_cut (σ : Sg) (x : Int32) : f_X3_needCut σ x = if x = 98 ∨ x = 115 ∨ x = 109 then some (.inr (), σ) else some (.inl 2, σ) := by
  unfold f_X3_needCut f_X3_needCut_0
  by_cases h1 : x = 98 <;> by_cases h2 : x = 115 <;> by_cases h3 : x = 109 <;> simp [h1, h2, h3]
theorem m_cut (σ : Sg) (x : Int32) : f_X4_isCut σ x = some (if x = 98 ∨ x = 115 ∨ x = 109 then 1 else 0, σ) := by
  unfold f_X4_isCut f_X4_isCut_0 f_X4_isCut_18
  by_cases h1 : x = 98 <;> by_cases h2 : x = 115 <;> by_cases h3 : x = 109 <;> simp [h1, h2, h3]
theorem c_in (σ : Sg) (x lo hi : Int32) : f_X3_needWithin σ x lo hi = if x < lo ∨ hi < x then some (.inl 2, σ) else some (.inr (), σ) := by
  unfold f_X3_needWithin f_X3_needWithin_0
  by_cases h1 : x < lo
  · rw [if_pos h1, if_pos (Or.inl h1)]
  · rw [if_neg h1]
    by_cases h2 : hi < x
    · rw [if_pos (Or.inr h2), if_neg (Int32.not_le.mpr h2)]
    · rw [if_neg (show ¬ (x < lo ∨ hi < x) from fun h => h.elim h1 h2), if_pos (Int32.not_lt.mp h2)]
theorem char_ok (x : Int32) : (((x.toUInt32 % 65536).toInt32).toUInt32 % 65536).toInt32 = (x.toUInt32 % 65536).toInt32 := by
  have h := pk_vc x
  have h2 := vp_nar_char (x.toUInt32 % 65536).toInt32
  rw [h] at h2
  have h3 := pk_nc (x.toUInt32 % 65536).toInt32
  have h4 : ((x.toUInt32 % 65536).toInt32).toBitVec.toNat < 65536 := by
    rw [pk_char x, pk_tn (by omega)]
    exact Nat.mod_lt _ (by decide)
  rw [pk_char ((x.toUInt32 % 65536).toInt32), pk_char x, pk_tn (by omega), Nat.mod_mod]
/-- blank on a fresh shop -/
theorem X_blank (x1 x2 x3 x4 : Int32) (hc : (x1.toUInt32 % 65536).toInt32 = x1) : f_X3_blank sg0 x1 x2 x3 x4 = if (x1 = 102 ∨ x1 = 104 ∨ x1 = 115) ∧ ¬ (x2 < 50 ∨ 200 < x2) ∧ ¬ (x3 < 20 ∨ 99 < x3) ∧ ¬ (x4 < 40 ∨ 140 < x4) then some (.inr (0 + 1 - 1), sv (sv (nwT sg0 0 x1 x2 x3 x4) 10 0 0 1) 0 0 1 (0 + 1)) else some (.inl 2, sg0) := by
  unfold f_X3_blank f_X3_blank_0
  by_cases h1 : x1 = 102 ∨ x1 = 104 ∨ x1 = 115
  case neg => rw [c_shape, if_neg h1, if_neg (fun h => h1 h.1)]; rfl
  rw [c_shape, if_pos h1]
  refine bxr rfl ?_
  dsimp only
  by_cases h2 : x2 < 50 ∨ 200 < x2
  · rw [c_in, if_pos h2, if_neg (fun h => h.2.1 h2)]; rfl
  rw [c_in, if_neg h2]
  refine bxr rfl ?_
  dsimp only
  by_cases h3 : x3 < 20 ∨ 99 < x3
  · rw [c_in, if_pos h3, if_neg (fun h => h.2.2.1 h3)]; rfl
  rw [c_in, if_neg h3]
  refine bxr rfl ?_
  dsimp only
  by_cases h4 : x4 < 40 ∨ 140 < x4
  · rw [c_in, if_pos h4, if_neg (fun h => h.2.2.2 h4)]; rfl
  rw [c_in, if_neg h4]
  refine bxr rfl ?_
  dsimp only
  rw [if_pos (show (x1 = 102 ∨ x1 = 104 ∨ x1 = 115) ∧ ¬ (x2 < 50 ∨ 200 < x2) ∧ ¬ (x3 < 20 ∨ 99 < x3) ∧ ¬ (x4 < 40 ∨ 140 < x4) from ⟨h1, h2, h3, h4⟩)]
  refine (if_pos (show sg0.1 0 0 1 < 8 by decide)).trans ?_
  unfold tl_blank
  rw [if_neg (show ¬ (sg0.1 0 0 1 < 0 ∨ 8 ≤ (sg0.1 0 0 1).toNatClampNeg) by decide), if_pos hc]
  rfl
theorem M_blank0 (σ : Sg) (h0 : σ.1 7 0 1 = 0) (x1 x2 x3 x4 : Int32) : ∃ τ : Sg, f_X4_blank σ x1 x2 x3 x4 = some (0, τ) ∧ τ.2 = σ.2 ∧ τ.1 7 0 0 = if (x1 = 102 ∨ x1 = 104 ∨ x1 = 115) ∧ ¬ (x2 < 50 ∨ 200 < x2) ∧ ¬ (x3 < 20 ∨ 99 < x3) ∧ ¬ (x4 < 40 ∨ 140 < x4) then 0 else 1 := by
  have hbad : ∃ τ : Sg, f_X4_blank_48 σ x1 x2 x3 x4 0 = some (0, τ) ∧ τ.2 = σ.2 ∧ τ.1 7 0 0 = 1 := by
    unfold f_X4_blank_48
    rw [if_pos rfl]
    unfold f_X4_blank_74
    rw [w_1]
    refine ⟨sv σ 7 0 0 1, ?_, rfl, rfl⟩
    simp only [Option.bind_some, if_neg one_ne]
  unfold f_X4_blank f_X4_blank_0
  rw [m_shape]
  by_cases h1 : x1 = 102 ∨ x1 = 104 ∨ x1 = 115
  case neg =>
    obtain ⟨τ, e1, e2, e3⟩ := hbad
    refine ⟨τ, ?_, e2, by rw [if_neg (fun h => h1 h.1)]; exact e3⟩
    rw [if_neg h1]
    simp only [Option.bind_some]
    exact (if_pos trivial).trans e1
  rw [if_pos h1]
  simp only [Option.bind_some, if_neg one_ne, m_bt]
  by_cases h2 : x2 < 50 ∨ 200 < x2
  · obtain ⟨τ, e1, e2, e3⟩ := hbad
    refine ⟨τ, ?_, e2, by rw [if_neg (fun h => h.2.1 h2)]; exact e3⟩
    rw [if_pos h2]
    exact (if_pos rfl).trans e1
  rw [if_neg h2, if_neg one_ne]
  by_cases h3 : x3 < 20 ∨ 99 < x3
  · obtain ⟨τ, e1, e2, e3⟩ := hbad
    refine ⟨τ, ?_, e2, by rw [if_neg (fun h => h.2.2.1 h3)]; exact e3⟩
    rw [if_pos h3]
    exact (if_pos rfl).trans e1
  rw [if_neg h3, if_neg one_ne]
  by_cases h4 : x4 < 40 ∨ 140 < x4
  · obtain ⟨τ, e1, e2, e3⟩ := hbad
    refine ⟨τ, ?_, e2, by rw [if_neg (fun h => h.2.2.2 h4)]; exact e3⟩
    rw [if_pos h4]
    exact (if_pos rfl).trans e1
  rw [if_neg h4, if_neg one_ne, if_pos ⟨h1, h2, h3, h4⟩]
  unfold f_X4_blank_48
  rw [if_neg one_ne, if_neg (by rw [h0]; decide)]
  unfold f_X4_blank_74
  rw [w_0]
  have e7 : (sv σ 7 0 0 0).1 7 0 1 = 0 := by rw [sv_at]; exact h0
  have e8 : ¬ ((0 : Int32) < 0 ∨ 8 ≤ (0 : Int32).toNatClampNeg) := by decide
  simp only [Option.bind_some, if_true, e7, if_neg e8]
  refine ⟨_, congrArg (fun v => some (v, _)) ?_, rfl, ?_⟩
  · first | rfl | (simp only [sv_at, upd, if_true]; decide)
  · first | rfl | (simp only [sv_at, upd, if_true]; decide)
theorem X_order (x1 x2 x3 : Int32) (hc : (x1.toUInt32 % 65536).toInt32 = x1) (hd : (x2.toUInt32 % 65536).toInt32 = x2) : f_X3_order sg0 x1 x2 x3 = if (x1 = 102 ∨ x1 = 104 ∨ x1 = 115) ∧ (x2 = 98 ∨ x2 = 115 ∨ x2 = 109) ∧ ¬ (x3 < 1 ∨ 8 < x3) then some (.inr (0 + 1 - 1), sv (sv (sr sg0 6 0 (og x1 x2 x3)) 11 0 0 1) 0 0 3 (0 + 1)) else some (.inl 2, sg0) := by
  unfold f_X3_order f_X3_order_0
  by_cases h1 : x1 = 102 ∨ x1 = 104 ∨ x1 = 115
  case neg => rw [c_shape, if_neg h1, if_neg (fun h => h1 h.1)]; rfl
  rw [c_shape, if_pos h1]
  refine bxr rfl ?_
  dsimp only
  by_cases h2 : x2 = 98 ∨ x2 = 115 ∨ x2 = 109
  case neg => rw [c_cut, if_neg h2, if_neg (fun h => h2 h.2.1)]; rfl
  rw [c_cut, if_pos h2]
  refine bxr rfl ?_
  dsimp only
  by_cases h3 : x3 < 1 ∨ 8 < x3
  · rw [c_in, if_pos h3, if_neg (fun h => h.2.2 h3)]; rfl
  rw [c_in, if_neg h3]
  refine bxr rfl ?_
  dsimp only
  rw [if_pos (show (x1 = 102 ∨ x1 = 104 ∨ x1 = 115) ∧ (x2 = 98 ∨ x2 = 115 ∨ x2 = 109) ∧ ¬ (x3 < 1 ∨ 8 < x3) from ⟨h1, h2, h3⟩)]
  refine (if_pos (show sg0.1 0 0 3 < 6 by decide)).trans ?_
  unfold tl_order
  rw [if_neg (show ¬ (sg0.1 0 0 3 < 0 ∨ 6 ≤ (sg0.1 0 0 3).toNatClampNeg) by decide), if_pos ⟨hc, hd⟩]
  rfl
theorem M_order0 (σ : Sg) (h0 : σ.1 7 0 23 = 0) (x1 x2 x3 : Int32) : ∃ τ : Sg, f_X4_order σ x1 x2 x3 = some (0, τ) ∧ τ.2 = σ.2 ∧ τ.1 7 0 0 = if (x1 = 102 ∨ x1 = 104 ∨ x1 = 115) ∧ (x2 = 98 ∨ x2 = 115 ∨ x2 = 109) ∧ ¬ (x3 < 1 ∨ 8 < x3) then 0 else 1 := by
  have hbad : ∃ τ : Sg, f_X4_order_25 σ x1 x2 x3 = some (0, τ) ∧ τ.2 = σ.2 ∧ τ.1 7 0 0 = 1 := by
    unfold f_X4_order_25 f_X4_order_43
    rw [w_1]
    refine ⟨sv σ 7 0 0 1, ?_, rfl, rfl⟩
    simp only [Option.bind_some, if_neg one_ne]
  unfold f_X4_order f_X4_order_0
  rw [m_shape]
  by_cases h1 : x1 = 102 ∨ x1 = 104 ∨ x1 = 115
  case neg =>
    obtain ⟨τ, e1, e2, e3⟩ := hbad
    refine ⟨τ, ?_, e2, by rw [if_neg (fun h => h1 h.1)]; exact e3⟩
    rw [if_neg h1]
    simp only [Option.bind_some]
    exact (if_pos trivial).trans e1
  rw [if_pos h1]
  simp only [Option.bind_some, if_neg one_ne, m_bt, m_cut]
  by_cases h2 : x2 = 98 ∨ x2 = 115 ∨ x2 = 109
  case neg =>
    obtain ⟨τ, e1, e2, e3⟩ := hbad
    refine ⟨τ, ?_, e2, by rw [if_neg (fun h => h2 h.2.1)]; exact e3⟩
    rw [if_neg h2]
    exact (if_pos rfl).trans e1
  rw [if_pos h2, if_neg one_ne]
  by_cases h3 : x3 < 1 ∨ 8 < x3
  · obtain ⟨τ, e1, e2, e3⟩ := hbad
    refine ⟨τ, ?_, e2, by rw [if_neg (fun h => h.2.2 h3)]; exact e3⟩
    rw [if_pos h3]
    exact (if_pos rfl).trans e1
  rw [if_neg h3, if_neg one_ne, if_neg (by rw [h0]; decide), if_pos ⟨h1, h2, h3⟩]
  unfold f_X4_order_43
  rw [w_0]
  have e7 : (sv σ 7 0 0 0).1 7 0 23 = 0 := by rw [sv_at]; exact h0
  have e8 : ¬ ((0 : Int32) < 0 ∨ 6 ≤ (0 : Int32).toNatClampNeg) := by decide
  simp only [Option.bind_some, if_true, e7, if_neg e8]
  refine ⟨_, congrArg (fun v => some (v, _)) ?_, rfl, ?_⟩
  · first | rfl | (simp only [sv_at, upd, if_true]; decide)
  · first | rfl | (simp only [sv_at, upd, if_true]; decide)
theorem L_wornShare : f_L_wornShare sg0 = some (1, sg0) := rfl
theorem M_wornShare : f_X4_wornShare sg0 = some (0, sv sg0 7 0 0 1) := rfl
theorem L_meanHardness : f_L_meanHardness sg0 = some (1, sg0) := rfl
theorem M_meanHardness : f_X4_meanHardness sg0 = some (0, sv sg0 7 0 0 1) := rfl
theorem X_checksum : f_X3_checksum sg0 = some (218, sg0) := rfl
theorem M_checksum : f_X4_checksum sg0 = some (218, sv sg0 7 0 0 0) := rfl
theorem X_isSound : f_X3_isSound sg0 = some (1, sg0) := rfl
theorem M_isSound (σ : Sg) : f_X4_isSound σ = some (1, sv σ 7 0 0 0) := rfl
theorem k_0 {xs : Nat → Int32} {rec : Sg → Int32 → Option Unit} (hrec : ∀ σ : Sg, rec σ (0 + 5) = some ()) : f_law_0 5 xs rec sg0 0 = some () := by
  unfold f_law_0
  simp only [if_neg i1, if_neg i2, if_neg i3, if_neg i4]
  generalize hx1 : ((xs ((0 + 1 : Int32).toNatClampNeg)).toUInt32 % 65536).toInt32 = x1
  generalize xs ((0 + 2 : Int32).toNatClampNeg) = x2
  generalize xs ((0 + 3 : Int32).toNatClampNeg) = x3
  generalize xs ((0 + 4 : Int32).toNatClampNeg) = x4
  have hc : (x1.toUInt32 % 65536).toInt32 = x1 := by rw [← hx1]; exact char_ok _
  have hX := X_blank x1 x2 x3 x4 hc
  by_cases hp : (x1 = 102 ∨ x1 = 104 ∨ x1 = 115) ∧ ¬ (x2 < 50 ∨ 200 < x2) ∧ ¬ (x3 < 20 ∨ 99 < x3) ∧ ¬ (x4 < 40 ∨ 140 < x4)
  · rw [if_pos hp] at hX
    refine bd (a := (0, svo (sv (sv (nwT sg0 0 x1 x2 x3 x4) 10 0 0 1) 0 0 1 (0 + 1)) ((0 + 1 - 1 : Int32).toInt64))) (by unfold f_L_blank; exact bxr hX rfl) ?_
    dsimp only
    obtain ⟨τ, e1, e2, e3⟩ := M_blank0 (svo (sv (sv (nwT sg0 0 x1 x2 x3 x4) 10 0 0 1) 0 0 1 (0 + 1)) ((0 + 1 - 1 : Int32).toInt64)) rfl x1 x2 x3 x4
    rw [if_pos hp] at e3
    refine bd e1 ?_
    dsimp only
    refine bd (thr _) ?_
    dsimp only
    rw [if_pos e3, if_pos rfl, e2]
    exact (if_pos (show lg_cmp ((0 + 1 - 1 : Int32).toInt64) ((0 : Int32).toInt64) = 0 by decide)).trans (hrec _)
  · rw [if_neg hp] at hX
    refine bd (a := (1, sg0)) (by unfold f_L_blank; exact bxl hX rfl) ?_
    dsimp only
    obtain ⟨τ, e1, e2, e3⟩ := M_blank0 sg0 rfl x1 x2 x3 x4
    rw [if_neg hp] at e3
    refine bd e1 ?_
    dsimp only
    refine bd (thr _) ?_
    dsimp only
    rw [if_pos e3, if_neg one_ne]
    exact hrec _
theorem k_1 {xs : Nat → Int32} {rec : Sg → Int32 → Option Unit} (hrec : ∀ σ : Sg, rec σ (0 + 5) = some ()) : f_law_1 5 xs rec sg0 0 = some () := by
  unfold f_law_1
  simp only [if_neg i1, if_neg i2, if_neg i3, if_neg i4]
  refine bd (L_cut _ _ _) ?_
  dsimp only
  refine bd (M_cut _ _ _) ?_
  dsimp only
  refine bd (thr _) ?_
  dsimp only
  rw [if_pos t1, if_neg one_ne]
  exact hrec _
theorem k_2 {xs : Nat → Int32} {rec : Sg → Int32 → Option Unit} (hrec : ∀ σ : Sg, rec σ (0 + 5) = some ()) : f_law_2 5 xs rec sg0 0 = some () := by
  unfold f_law_2
  simp only [if_neg i1, if_neg i2, if_neg i3, if_neg i4]
  refine bd (L_upcut _) ?_
  dsimp only
  refine bd (M_upcut _) ?_
  dsimp only
  refine bd (thr _) ?_
  dsimp only
  rw [if_pos t1, if_neg one_ne]
  exact hrec _
theorem k_3 {xs : Nat → Int32} {rec : Sg → Int32 → Option Unit} (hrec : ∀ σ : Sg, rec σ (0 + 5) = some ()) : f_law_3 5 xs rec sg0 0 = some () := by
  unfold f_law_3
  simp only [if_neg i1, if_neg i2, if_neg i3, if_neg i4]
  refine bd (L_teeth _) ?_
  dsimp only
  refine bd (M_teeth _) ?_
  dsimp only
  refine bd (thr _) ?_
  dsimp only
  rw [if_pos t1, if_neg one_ne]
  exact hrec _
theorem k_4 {xs : Nat → Int32} {rec : Sg → Int32 → Option Unit} (hrec : ∀ σ : Sg, rec σ (0 + 5) = some ()) : f_law_4 5 xs rec sg0 0 = some () := by
  unfold f_law_4
  simp only [if_neg i1, if_neg i2, if_neg i3, if_neg i4]
  refine bd (L_place _ _) ?_
  dsimp only
  refine bd (M_place _ _) ?_
  dsimp only
  refine bd (thr _) ?_
  dsimp only
  rw [if_pos t1, if_neg one_ne]
  exact hrec _
theorem k_5 {xs : Nat → Int32} {rec : Sg → Int32 → Option Unit} (hrec : ∀ σ : Sg, rec σ (0 + 5) = some ()) : f_law_5 5 xs rec sg0 0 = some () := by
  unfold f_law_5
  simp only [if_neg i1, if_neg i2, if_neg i3, if_neg i4]
  refine bd (L_height _ _) ?_
  dsimp only
  refine bd (M_height _ _) ?_
  dsimp only
  refine bd (thr _) ?_
  dsimp only
  rw [if_pos t1, if_neg one_ne]
  exact hrec _
theorem k_6 {xs : Nat → Int32} {rec : Sg → Int32 → Option Unit} (hrec : ∀ σ : Sg, rec σ (0 + 5) = some ()) : f_law_6 5 xs rec sg0 0 = some () := by
  unfold f_law_6
  simp only [if_neg i1, if_neg i2, if_neg i3, if_neg i4]
  refine bd (L_wear _ _) ?_
  dsimp only
  refine bd (M_wear _ _) ?_
  dsimp only
  refine bd (thr _) ?_
  dsimp only
  rw [if_pos t1, if_neg one_ne]
  exact hrec _
theorem k_7 {xs : Nat → Int32} {rec : Sg → Int32 → Option Unit} (hrec : ∀ σ : Sg, rec σ (0 + 5) = some ()) : f_law_7 5 xs rec sg0 0 = some () := by
  unfold f_law_7
  simp only [if_neg i1, if_neg i2, if_neg i3, if_neg i4]
  refine bd (L_sings _) ?_
  dsimp only
  refine bd (M_sings _) ?_
  dsimp only
  refine bd (thr _) ?_
  dsimp only
  rw [if_pos t1, if_neg one_ne]
  exact hrec _
theorem k_8 {xs : Nat → Int32} {rec : Sg → Int32 → Option Unit} (hrec : ∀ σ : Sg, rec σ (0 + 5) = some ()) : f_law_8 5 xs rec sg0 0 = some () := by
  unfold f_law_8
  simp only [if_neg i1, if_neg i2, if_neg i3, if_neg i4]
  refine bd (L_set _ _) ?_
  dsimp only
  refine bd (M_set _ _) ?_
  dsimp only
  refine bd (thr _) ?_
  dsimp only
  rw [if_pos t1, if_neg one_ne]
  exact hrec _
theorem k_9 {xs : Nat → Int32} {rec : Sg → Int32 → Option Unit} (hrec : ∀ σ : Sg, rec σ (0 + 5) = some ()) : f_law_9 5 xs rec sg0 0 = some () := by
  unfold f_law_9
  simp only [if_neg i1, if_neg i2, if_neg i3, if_neg i4]
  refine bd (L_kerf _) ?_
  dsimp only
  refine bd (M_kerf _) ?_
  dsimp only
  refine bd (thr _) ?_
  dsimp only
  rw [if_pos t1, if_neg one_ne]
  exact hrec _
theorem k_10 {xs : Nat → Int32} {rec : Sg → Int32 → Option Unit} (hrec : ∀ σ : Sg, rec σ (0 + 5) = some ()) : f_law_10 5 xs rec sg0 0 = some () := by
  unfold f_law_10
  simp only [if_neg i1, if_neg i2, if_neg i3, if_neg i4]
  refine bd (L_gullets _) ?_
  dsimp only
  refine bd (M_gullets _) ?_
  dsimp only
  refine bd (thr _) ?_
  dsimp only
  rw [if_pos t1, if_neg one_ne]
  exact hrec _
theorem k_11 {xs : Nat → Int32} {rec : Sg → Int32 → Option Unit} (hrec : ∀ σ : Sg, rec σ (0 + 5) = some ()) : f_law_11 5 xs rec sg0 0 = some () := by
  unfold f_law_11
  simp only [if_neg i1, if_neg i2, if_neg i3, if_neg i4]
  refine bd (L_thickness _) ?_
  dsimp only
  refine bd (M_thickness _) ?_
  dsimp only
  refine bd (thr _) ?_
  dsimp only
  rw [if_pos t1, if_neg one_ne]
  exact hrec _
theorem k_12 {xs : Nat → Int32} {rec : Sg → Int32 → Option Unit} (hrec : ∀ σ : Sg, rec σ (0 + 5) = some ()) : f_law_12 5 xs rec sg0 0 = some () := by
  unfold f_law_12
  simp only [if_neg i1, if_neg i2, if_neg i3, if_neg i4]
  refine bd (L_state _) ?_
  dsimp only
  refine bd (M_state _) ?_
  dsimp only
  refine bd (thr _) ?_
  dsimp only
  rw [if_pos t1, if_neg one_ne]
  exact hrec _
theorem k_13 {xs : Nat → Int32} {rec : Sg → Int32 → Option Unit} (hrec : ∀ σ : Sg, rec σ (0 + 5) = some ()) : f_law_13 5 xs rec sg0 0 = some () := by
  unfold f_law_13
  simp only [if_neg i1, if_neg i2, if_neg i3, if_neg i4]
  refine bd (L_harden _ _ _) ?_
  dsimp only
  refine bd (M_harden _ _ _) ?_
  dsimp only
  refine bd (thr _) ?_
  dsimp only
  rw [if_pos t1, if_neg one_ne]
  exact hrec _
theorem k_14 {xs : Nat → Int32} {rec : Sg → Int32 → Option Unit} (hrec : ∀ σ : Sg, rec σ (0 + 5) = some ()) : f_law_14 5 xs rec sg0 0 = some () := by
  unfold f_law_14
  simp only [if_neg i1, if_neg i2, if_neg i3, if_neg i4]
  refine bd (L_hardness _) ?_
  dsimp only
  refine bd (M_hardness _) ?_
  dsimp only
  refine bd (thr _) ?_
  dsimp only
  rw [if_pos t1, if_neg one_ne]
  exact hrec _
theorem k_15 {xs : Nat → Int32} {rec : Sg → Int32 → Option Unit} (hrec : ∀ σ : Sg, rec σ (0 + 5) = some ()) : f_law_15 5 xs rec sg0 0 = some () := by
  unfold f_law_15
  simp only [if_neg i1, if_neg i2, if_neg i3, if_neg i4]
  refine bd (L_bend _) ?_
  dsimp only
  refine bd (M_bend _) ?_
  dsimp only
  refine bd (thr _) ?_
  dsimp only
  rw [if_pos t1, if_neg one_ne]
  exact hrec _
theorem k_16 {xs : Nat → Int32} {rec : Sg → Int32 → Option Unit} (hrec : ∀ σ : Sg, rec σ (0 + 5) = some ()) : f_law_16 5 xs rec sg0 0 = some () := by
  unfold f_law_16
  simp only [if_neg i1, if_neg i2, if_neg i3, if_neg i4]
  refine bd (L_temper _ _) ?_
  dsimp only
  refine bd (M_temper _ _) ?_
  dsimp only
  refine bd (thr _) ?_
  dsimp only
  rw [if_pos t1, if_neg one_ne]
  exact hrec _
theorem k_17 {xs : Nat → Int32} {rec : Sg → Int32 → Option Unit} (hrec : ∀ σ : Sg, rec σ (0 + 5) = some ()) : f_law_17 5 xs rec sg0 0 = some () := by
  unfold f_law_17
  simp only [if_neg i1, if_neg i2, if_neg i3, if_neg i4]
  refine bd (L_straighten _ _) ?_
  dsimp only
  refine bd (M_straighten _ _) ?_
  dsimp only
  refine bd (thr _) ?_
  dsimp only
  rw [if_pos t1, if_neg one_ne]
  exact hrec _
theorem k_18 {xs : Nat → Int32} {rec : Sg → Int32 → Option Unit} (hrec : ∀ σ : Sg, rec σ (0 + 5) = some ()) : f_law_18 5 xs rec sg0 0 = some () := by
  unfold f_law_18
  simp only [if_neg i1]
  generalize xs ((0 + 1 : Int32).toNatClampNeg) = z
  by_cases hz : z < 1 ∨ 2147483646 < z
  · refine bd (a := (1, sg0)) (by unfold f_L_seed f_X3_seed f_X3_seed_0; rw [c_in, if_pos hz]; rfl) ?_
    dsimp only
    refine bd (a := (0, sv sg0 7 0 0 1)) (by unfold f_X4_seed f_X4_seed_0; rw [m_bt, if_pos hz]; refine bd rfl ?_; dsimp only; rw [if_pos rfl]; unfold f_X4_seed_16; refine bd (w_1 _) ?_; exact if_neg one_ne) ?_
    dsimp only
    refine bd (thr _) ?_
    dsimp only
    rw [if_pos t1, if_neg one_ne]
    exact hrec _
  · refine bd (a := (0, svo (svz sg0 z.toInt64) 1)) (by unfold f_L_seed f_X3_seed f_X3_seed_0; rw [c_in, if_neg hz]; rfl) ?_
    dsimp only
    refine bd (a := (1, sv (sv (svo (svz sg0 z.toInt64) 1) 7 0 0 0) 7 0 22 z)) (by unfold f_X4_seed f_X4_seed_0; rw [m_bt, if_neg hz]; refine bd rfl ?_; dsimp only; rw [if_neg one_ne]; unfold f_X4_seed_16; refine bd (w_0 _) ?_; exact (if_pos rfl).trans rfl) ?_
    dsimp only
    refine bd (thr _) ?_
    dsimp only
    refine (if_pos rfl).trans ((if_pos rfl).trans ((if_pos (show lg_cmp 1 ((1 : Int32).toInt64) = 0 by decide)).trans (hrec _)))
theorem k_19 {xs : Nat → Int32} {rec : Sg → Int32 → Option Unit} (hrec : ∀ σ : Sg, rec σ (0 + 5) = some ()) : f_law_19 5 xs rec sg0 0 = some () := by
  unfold f_law_19
  simp only [if_neg i1, if_neg i2, if_neg i3, if_neg i4]
  refine bd (L_strokes _ _ _) ?_
  dsimp only
  refine bd (M_strokes _ _ _) ?_
  dsimp only
  refine bd (thr _) ?_
  dsimp only
  rw [if_pos t1, if_neg one_ne]
  exact hrec _
theorem k_20 {xs : Nat → Int32} {rec : Sg → Int32 → Option Unit} (hrec : ∀ σ : Sg, rec σ (0 + 5) = some ()) : f_law_20 5 xs rec sg0 0 = some () := by
  unfold f_law_20
  simp only [if_neg i1, if_neg i2, if_neg i3, if_neg i4]
  refine bd (L_chips _) ?_
  dsimp only
  refine bd (M_chips _) ?_
  dsimp only
  refine bd (thr _) ?_
  dsimp only
  rw [if_pos t1, if_neg one_ne]
  exact hrec _
theorem k_21 {xs : Nat → Int32} {rec : Sg → Int32 → Option Unit} (hrec : ∀ σ : Sg, rec σ (0 + 5) = some ()) : f_law_21 5 xs rec sg0 0 = some () := by
  unfold f_law_21
  simp only [if_neg i1, if_neg i2, if_neg i3, if_neg i4]
  refine bd (L_brush _) ?_
  dsimp only
  refine bd (M_brush _) ?_
  dsimp only
  refine bd (thr _) ?_
  dsimp only
  rw [if_pos t1, if_neg one_ne]
  exact hrec _
theorem k_22 {xs : Nat → Int32} {rec : Sg → Int32 → Option Unit} (hrec : ∀ σ : Sg, rec σ (0 + 5) = some ()) : f_law_22 5 xs rec sg0 0 = some () := by
  unfold f_law_22
  simp only [if_neg i1, if_neg i2, if_neg i3, if_neg i4]
  refine bd (L_work _) ?_
  dsimp only
  refine bd (M_work _) ?_
  dsimp only
  refine bd (thr _) ?_
  dsimp only
  rw [if_pos t1, if_neg one_ne]
  exact hrec _
theorem k_23 {xs : Nat → Int32} {rec : Sg → Int32 → Option Unit} (hrec : ∀ σ : Sg, rec σ (0 + 5) = some ()) : f_law_23 5 xs rec sg0 0 = some () := by
  unfold f_law_23
  simp only [if_neg i1, if_neg i2, if_neg i3, if_neg i4]
  refine bd (L_soften _) ?_
  dsimp only
  refine bd (M_soften _) ?_
  dsimp only
  refine bd (thr _) ?_
  dsimp only
  rw [if_pos t1, if_neg one_ne]
  exact hrec _
theorem k_24 {xs : Nat → Int32} {rec : Sg → Int32 → Option Unit} (hrec : ∀ σ : Sg, rec σ (0 + 5) = some ()) : f_law_24 5 xs rec sg0 0 = some () := by
  unfold f_law_24
  simp only [if_neg i1, if_neg i2, if_neg i3, if_neg i4]
  refine bd (L_grind _) ?_
  dsimp only
  refine bd (M_grind _) ?_
  dsimp only
  refine bd (thr _) ?_
  dsimp only
  rw [if_pos t1, if_neg one_ne]
  exact hrec _
theorem k_25 {xs : Nat → Int32} {rec : Sg → Int32 → Option Unit} (hrec : ∀ σ : Sg, rec σ (0 + 5) = some ()) : f_law_25 5 xs rec sg0 0 = some () := by
  unfold f_law_25
  simp only [if_neg i1, if_neg i2, if_neg i3, if_neg i4]
  refine bd (L_recuts _) ?_
  dsimp only
  refine bd (M_recuts _) ?_
  dsimp only
  refine bd (thr _) ?_
  dsimp only
  rw [if_pos t1, if_neg one_ne]
  exact hrec _
theorem k_26 {xs : Nat → Int32} {rec : Sg → Int32 → Option Unit} (hrec : ∀ σ : Sg, rec σ (0 + 5) = some ()) : f_law_26 5 xs rec sg0 0 = some () := by
  unfold f_law_26
  simp only [if_neg i1, if_neg i2, if_neg i3, if_neg i4]
  refine bd (L_recutsLeft _ _) ?_
  dsimp only
  refine bd (M_recutsLeft _ _) ?_
  dsimp only
  refine bd (thr _) ?_
  dsimp only
  rw [if_pos t1, if_neg one_ne]
  exact hrec _
theorem k_27 {xs : Nat → Int32} {rec : Sg → Int32 → Option Unit} (hrec : ∀ σ : Sg, rec σ (0 + 5) = some ()) : f_law_27 5 xs rec sg0 0 = some () := by
  unfold f_law_27
  simp only [if_neg i1, if_neg i2, if_neg i3, if_neg i4]
  generalize hx1 : ((xs ((0 + 1 : Int32).toNatClampNeg)).toUInt32 % 65536).toInt32 = x1
  generalize hx2 : ((xs ((0 + 2 : Int32).toNatClampNeg)).toUInt32 % 65536).toInt32 = x2
  generalize xs ((0 + 3 : Int32).toNatClampNeg) = x3
  have hc : (x1.toUInt32 % 65536).toInt32 = x1 := by rw [← hx1]; exact char_ok _
  have hd : (x2.toUInt32 % 65536).toInt32 = x2 := by rw [← hx2]; exact char_ok _
  have hX := X_order x1 x2 x3 hc hd
  by_cases hp : (x1 = 102 ∨ x1 = 104 ∨ x1 = 115) ∧ (x2 = 98 ∨ x2 = 115 ∨ x2 = 109) ∧ ¬ (x3 < 1 ∨ 8 < x3)
  · rw [if_pos hp] at hX
    refine bd (a := (0, svo (sv (sv (sr sg0 6 0 (og x1 x2 x3)) 11 0 0 1) 0 0 3 (0 + 1)) ((0 + 1 - 1 : Int32).toInt64))) (by unfold f_L_order; exact bxr hX rfl) ?_
    dsimp only
    obtain ⟨τ, e1, e2, e3⟩ := M_order0 (svo (sv (sv (sr sg0 6 0 (og x1 x2 x3)) 11 0 0 1) 0 0 3 (0 + 1)) ((0 + 1 - 1 : Int32).toInt64)) rfl x1 x2 x3
    rw [if_pos hp] at e3
    refine bd e1 ?_
    dsimp only
    refine bd (thr _) ?_
    dsimp only
    rw [if_pos e3, if_pos rfl, e2]
    exact (if_pos (show lg_cmp ((0 + 1 - 1 : Int32).toInt64) ((0 : Int32).toInt64) = 0 by decide)).trans (hrec _)
  · rw [if_neg hp] at hX
    refine bd (a := (1, sg0)) (by unfold f_L_order; exact bxl hX rfl) ?_
    dsimp only
    obtain ⟨τ, e1, e2, e3⟩ := M_order0 sg0 rfl x1 x2 x3
    rw [if_neg hp] at e3
    refine bd e1 ?_
    dsimp only
    refine bd (thr _) ?_
    dsimp only
    rw [if_pos e3, if_neg one_ne]
    exact hrec _
theorem k_28 {xs : Nat → Int32} {rec : Sg → Int32 → Option Unit} (hrec : ∀ σ : Sg, rec σ (0 + 5) = some ()) : f_law_28 5 xs rec sg0 0 = some () := by
  unfold f_law_28
  simp only [if_neg i1, if_neg i2, if_neg i3, if_neg i4]
  refine bd (L_isGood _ _) ?_
  dsimp only
  refine bd (M_isGood _ _) ?_
  dsimp only
  refine bd (thr _) ?_
  dsimp only
  rw [if_pos t1, if_neg one_ne]
  exact hrec _
theorem k_29 {xs : Nat → Int32} {rec : Sg → Int32 → Option Unit} (hrec : ∀ σ : Sg, rec σ (0 + 5) = some ()) : f_law_29 5 xs rec sg0 0 = some () := by
  unfold f_law_29
  simp only [if_neg i1, if_neg i2, if_neg i3, if_neg i4]
  refine bd (L_send _ _) ?_
  dsimp only
  refine bd (M_send _ _) ?_
  dsimp only
  refine bd (thr _) ?_
  dsimp only
  rw [if_pos t1, if_neg one_ne]
  exact hrec _
theorem k_30 {xs : Nat → Int32} {rec : Sg → Int32 → Option Unit} (hrec : ∀ σ : Sg, rec σ (0 + 5) = some ()) : f_law_30 5 xs rec sg0 0 = some () := by
  unfold f_law_30
  simp only [if_neg i1, if_neg i2, if_neg i3, if_neg i4]
  refine bd (L_sent _) ?_
  dsimp only
  refine bd (M_sent _) ?_
  dsimp only
  refine bd (thr _) ?_
  dsimp only
  rw [if_pos t1, if_neg one_ne]
  exact hrec _
theorem k_31 {xs : Nat → Int32} {rec : Sg → Int32 → Option Unit} (hrec : ∀ σ : Sg, rec σ (0 + 5) = some ()) : f_law_31 5 xs rec sg0 0 = some () := by
  unfold f_law_31
  refine bd L_wornShare ?_
  dsimp only
  refine bd M_wornShare ?_
  dsimp only
  refine bd (thr _) ?_
  dsimp only
  rw [if_pos t1, if_neg one_ne]
  exact hrec _
theorem k_32 {xs : Nat → Int32} {rec : Sg → Int32 → Option Unit} (hrec : ∀ σ : Sg, rec σ (0 + 5) = some ()) : f_law_32 5 xs rec sg0 0 = some () := by
  unfold f_law_32
  refine bd L_meanHardness ?_
  dsimp only
  refine bd M_meanHardness ?_
  dsimp only
  refine bd (thr _) ?_
  dsimp only
  rw [if_pos t1, if_neg one_ne]
  exact hrec _
theorem k_33 {xs : Nat → Int32} {rec : Sg → Int32 → Option Unit} (hrec : ∀ σ : Sg, rec σ (0 + 5) = some ()) : f_law_33 5 xs rec sg0 0 = some () := by
  unfold f_law_33
  refine bd X_checksum ?_
  dsimp only
  refine bd M_checksum ?_
  dsimp only
  rw [if_pos (by decide)]
  exact hrec _
theorem k_34 {xs : Nat → Int32} {rec : Sg → Int32 → Option Unit} (hrec : ∀ σ : Sg, rec σ (0 + 5) = some ()) : f_law_34 5 xs rec sg0 0 = some () := by
  unfold f_law_34
  refine bd X_isSound ?_
  dsimp only
  refine bd (M_isSound _) ?_
  dsimp only
  rw [if_pos rfl]
  exact hrec _
theorem law_sw (xs : Nat → Int32) (rec : Sg → Int32 → Option Unit) (hrec : ∀ σ : Sg, rec σ (0 + 5) = some ()) (v : Int32) : f_law_sw 5 xs rec sg0 0 v = some () := by
  unfold f_law_sw
  by_cases hv : v.toInt < 0 ∨ 34 < v.toInt
  · rw [if_pos hv]; exact hrec _
  rw [if_neg hv]
  by_cases e0 : v.toInt = 0
  · rw [if_pos e0]; exact k_0 hrec
  rw [if_neg e0]
  by_cases e1 : v.toInt = 1
  · rw [if_pos e1]; exact k_1 hrec
  rw [if_neg e1]
  by_cases e2 : v.toInt = 2
  · rw [if_pos e2]; exact k_2 hrec
  rw [if_neg e2]
  by_cases e3 : v.toInt = 3
  · rw [if_pos e3]; exact k_3 hrec
  rw [if_neg e3]
  by_cases e4 : v.toInt = 4
  · rw [if_pos e4]; exact k_4 hrec
  rw [if_neg e4]
  by_cases e5 : v.toInt = 5
  · rw [if_pos e5]; exact k_5 hrec
  rw [if_neg e5]
  by_cases e6 : v.toInt = 6
  · rw [if_pos e6]; exact k_6 hrec
  rw [if_neg e6]
  by_cases e7 : v.toInt = 7
  · rw [if_pos e7]; exact k_7 hrec
  rw [if_neg e7]
  by_cases e8 : v.toInt = 8
  · rw [if_pos e8]; exact k_8 hrec
  rw [if_neg e8]
  by_cases e9 : v.toInt = 9
  · rw [if_pos e9]; exact k_9 hrec
  rw [if_neg e9]
  by_cases e10 : v.toInt = 10
  · rw [if_pos e10]; exact k_10 hrec
  rw [if_neg e10]
  by_cases e11 : v.toInt = 11
  · rw [if_pos e11]; exact k_11 hrec
  rw [if_neg e11]
  by_cases e12 : v.toInt = 12
  · rw [if_pos e12]; exact k_12 hrec
  rw [if_neg e12]
  by_cases e13 : v.toInt = 13
  · rw [if_pos e13]; exact k_13 hrec
  rw [if_neg e13]
  by_cases e14 : v.toInt = 14
  · rw [if_pos e14]; exact k_14 hrec
  rw [if_neg e14]
  by_cases e15 : v.toInt = 15
  · rw [if_pos e15]; exact k_15 hrec
  rw [if_neg e15]
  by_cases e16 : v.toInt = 16
  · rw [if_pos e16]; exact k_16 hrec
  rw [if_neg e16]
  by_cases e17 : v.toInt = 17
  · rw [if_pos e17]; exact k_17 hrec
  rw [if_neg e17]
  by_cases e18 : v.toInt = 18
  · rw [if_pos e18]; exact k_18 hrec
  rw [if_neg e18]
  by_cases e19 : v.toInt = 19
  · rw [if_pos e19]; exact k_19 hrec
  rw [if_neg e19]
  by_cases e20 : v.toInt = 20
  · rw [if_pos e20]; exact k_20 hrec
  rw [if_neg e20]
  by_cases e21 : v.toInt = 21
  · rw [if_pos e21]; exact k_21 hrec
  rw [if_neg e21]
  by_cases e22 : v.toInt = 22
  · rw [if_pos e22]; exact k_22 hrec
  rw [if_neg e22]
  by_cases e23 : v.toInt = 23
  · rw [if_pos e23]; exact k_23 hrec
  rw [if_neg e23]
  by_cases e24 : v.toInt = 24
  · rw [if_pos e24]; exact k_24 hrec
  rw [if_neg e24]
  by_cases e25 : v.toInt = 25
  · rw [if_pos e25]; exact k_25 hrec
  rw [if_neg e25]
  by_cases e26 : v.toInt = 26
  · rw [if_pos e26]; exact k_26 hrec
  rw [if_neg e26]
  by_cases e27 : v.toInt = 27
  · rw [if_pos e27]; exact k_27 hrec
  rw [if_neg e27]
  by_cases e28 : v.toInt = 28
  · rw [if_pos e28]; exact k_28 hrec
  rw [if_neg e28]
  by_cases e29 : v.toInt = 29
  · rw [if_pos e29]; exact k_29 hrec
  rw [if_neg e29]
  by_cases e30 : v.toInt = 30
  · rw [if_pos e30]; exact k_30 hrec
  rw [if_neg e30]
  by_cases e31 : v.toInt = 31
  · rw [if_pos e31]; exact k_31 hrec
  rw [if_neg e31]
  by_cases e32 : v.toInt = 32
  · rw [if_pos e32]; exact k_32 hrec
  rw [if_neg e32]
  by_cases e33 : v.toInt = 33
  · rw [if_pos e33]; exact k_33 hrec
  rw [if_neg e33]
  by_cases e34 : v.toInt = 34
  · rw [if_pos e34]; exact k_34 hrec
  rw [if_neg e34]
  exact absurd hv (by omega)
theorem law_true {L : Nat} {xs : Nat → Int32} (hL : L ≤ 5) : f_law_loop L xs 2 sg0 0 = some () := by
  show g_law L xs (f_law_loop L xs 1) sg0 0 = some ()
  unfold g_law
  rcases Nat.lt_or_ge L 5 with h | h
  · rw [if_pos (by
      rcases (show L = 0 ∨ L = 1 ∨ L = 2 ∨ L = 3 ∨ L = 4 by omega) with rfl | rfl | rfl | rfl | rfl <;> decide)]
  · have h5 : L = 5 := by omega
    subst h5
    rw [if_neg (by decide), if_neg (by decide)]
    refine law_sw xs _ (fun σ => ?_) _
    show g_law 5 xs (f_law_loop 5 xs 0) σ (0 + 5) = some ()
    unfold g_law
    rw [if_pos (by decide)]
