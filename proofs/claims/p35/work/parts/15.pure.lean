/-! ===== the pure part: class and reference answer alike ===== -/
theorem bd {α β : Type} {o : Option α} {k : α → Option β} {a : α} {r : Option β} (h : o = some a) (hk : k a = r) : o.bind k = r := by rw [h]; exact hk
theorem bx_r {ρ β : Type} (v : ρ) (τ : Sg) (k : ρ × Sg → Option β) (h : Nat × Sg → Option β) : bx (some (.inr v, τ)) k h = k (v, τ) := rfl
theorem bx_l {ρ β : Type} (v : Nat) (τ : Sg) (k : ρ × Sg → Option β) (h : Nat × Sg → Option β) : bx (some (.inl v, τ)) k h = h (v, τ) := rfl
theorem sv_rd (σ : Sg) (k i p k' i' p' : Nat) (v : Int32) : (sv σ k i p v).1 k' i' p' = if k' = k ∧ i' = i ∧ p' = p then v else σ.1 k' i' p' := by
  by_cases h : k' = k ∧ i' = i
  · obtain ⟨rfl, rfl⟩ := h
    rw [sv_at]
    by_cases hp : p' = p
    · subst hp; rw [pk_us, if_pos ⟨rfl, rfl, rfl⟩]
    · rw [pk_un hp, if_neg (fun q => hp q.2.2)]
  · rw [sv_ne _ _ _ h, if_neg (fun q => h ⟨q.1, q.2.1⟩)]
theorem sr_rd (σ : Sg) (k i k' i' p' : Nat) (g : Nat → Int32) : (sr σ k i g).1 k' i' p' = if k' = k ∧ i' = i then g p' else σ.1 k' i' p' := by
  by_cases h : k' = k ∧ i' = i
  · obtain ⟨rfl, rfl⟩ := h
    rw [sr_at, if_pos ⟨rfl, rfl⟩]
  · rw [sr_ne _ _ h, if_neg h]
theorem svo_1 (σ : Sg) (v : Int64) : (svo σ v).1 = σ.1 := rfl
theorem svz_1 (σ : Sg) (v : Int64) : (svz σ v).1 = σ.1 := rfl
theorem svd_1 (σ : Sg) (v : UInt64) : (svd σ v).1 = σ.1 := rfl
theorem sv_2 (σ : Sg) (k i p : Nat) (v : Int32) : (sv σ k i p v).2 = σ.2 := rfl
theorem sr_2 (σ : Sg) (k i : Nat) (g : Nat → Int32) : (sr σ k i g).2 = σ.2 := rfl
theorem svo_z (σ : Sg) (v : Int64) : (svo σ v).2.1 = σ.2.1 := rfl
theorem svd_z (σ : Sg) (v : UInt64) : (svd σ v).2.1 = σ.2.1 := rfl
theorem svz_z (σ : Sg) (v : Int64) : (svz σ v).2.1 = v := rfl
theorem svo_o (σ : Sg) (v : Int64) : (svo σ v).2.2.1 = v := rfl
theorem svd_o (σ : Sg) (v : UInt64) : (svd σ v).2.2.2 = v := rfl
theorem svz_22 (σ : Sg) (v : Int64) : (svz σ v).2.2 = σ.2.2 := rfl
theorem one_ne : ¬ (1 : Int32) = 0 := by decide
theorem g8 {i : Nat} (h : i < 8) : (nI i < 0 ∨ 8 ≤ (nI i).toNatClampNeg) = False := by
  rw [nI_clamp (by omega)]
  exact eq_false (fun q => q.elim (nI_pos (by omega)) (fun q => by omega))
theorem g6 {i : Nat} (h : i < 6) : (nI i < 0 ∨ 6 ≤ (nI i).toNatClampNeg) = False := by
  rw [nI_clamp (by omega)]
  exact eq_false (fun q => q.elim (nI_pos (by omega)) (fun q => by omega))
theorem g60 {i : Nat} (h : i < 60) : (nI i < 0 ∨ 60 ≤ (nI i).toNatClampNeg) = False := by
  rw [nI_clamp (by omega)]
  exact eq_false (fun q => q.elim (nI_pos (by omega)) (fun q => by omega))
theorem g480 {i : Nat} (h : i < 480) : (nI i < 0 ∨ 480 ≤ (nI i).toNatClampNeg) = False := by
  rw [nI_clamp (by omega)]
  exact eq_false (fun q => q.elim (nI_pos (by omega)) (fun q => by omega))
theorem cl8 {i : Nat} (h : i < 480) : (nI i).toNatClampNeg = i := nI_clamp (by omega)
theorem n60 (i : Nat) : 60 * nI i = nI (60 * i) := pk_mul 60 i
theorem n60a (i k : Nat) : 60 * nI i + nI k = nI (60 * i + k) := by rw [n60, nI_add]
theorem lz0 : (0 : Int32) = nI 0 := by decide
theorem lz8 : (8 : Int32) = nI 8 := by decide
theorem vch {x : Int32} (h : (x.toUInt32 % 65536).toInt32 = x) : vp_nar .char x = x := by
  have h1 := pk_vc x
  rw [h] at h1
  rw [h1]
theorem vb0 : vp_nar .boolean 0 = 0 := by decide
theorem vb1 : vp_nar .boolean 1 = 1 := by decide
theorem vc45 : vp_nar .char 45 = 45 := by decide
theorem vc115 : vp_nar .char 115 = 115 := by decide
theorem vc104 : vp_nar .char 104 = 104 := by decide
theorem vc99 : vp_nar .char 99 = 99 := by decide
theorem h8 {i : Nat} (h : i < 8) : (nI i < 0 ∨ 8 ≤ i) = False := eq_false (fun q => q.elim (nI_pos (by omega)) (fun q => by omega))
theorem h6 {i : Nat} (h : i < 6) : (nI i < 0 ∨ 6 ≤ i) = False := eq_false (fun q => q.elim (nI_pos (by omega)) (fun q => by omega))
theorem h60 {i : Nat} (h : i < 60) : (nI i < 0 ∨ 60 ≤ i) = False := eq_false (fun q => q.elim (nI_pos (by omega)) (fun q => by omega))
theorem h480 {i : Nat} (h : i < 480) : (nI i < 0 ∨ 480 ≤ i) = False := eq_false (fun q => q.elim (nI_pos (by omega)) (fun q => by omega))
/-! the relation of class and reference -/
def pitchF (c : Int32) : Int32 := if c = 98 then 6 else if c = 115 then 4 else 3
def depthF (c sh : Int32) : Int32 := if sh = 104 then (if c = 98 then 9 else if c = 115 then 6 else 4) - 1 else (if c = 98 then 9 else if c = 115 then 6 else 4)
def stepF (c sp : Int32) (k : Nat) : Int32 := pitchF c + sp * nI (k % 3)
def plc (c sp : Int32) : Nat → Int32
  | 0 => 0
  | k + 1 => plc c sp k + stepF c sp k
/-- the plain fields of tool i agree -/
def RA (σ : Sg) (i : Nat) : Prop :=
  σ.1 8 2 i = σ.1 1 i 0 ∧ σ.1 8 5 i = σ.1 1 i 1 ∧ σ.1 8 7 i = σ.1 1 i 2 ∧ σ.1 8 6 i = σ.1 1 i 3 ∧ σ.1 8 4 i = σ.1 1 i 4 ∧ σ.1 8 9 i = σ.1 1 i 6 ∧ σ.1 8 10 i = σ.1 1 i 7 ∧ σ.1 8 11 i = σ.1 1 i 8
  ∧ σ.1 8 13 i = σ.1 1 i 10 ∧ σ.1 8 14 i = σ.1 1 i 12 ∧ σ.1 8 15 i = σ.1 1 i 13 ∧ σ.1 8 16 i = σ.1 2 i 3 ∧ σ.1 8 17 i = σ.1 2 i 4
/-- their bounds -/
def RB (σ : Sg) (i : Nat) : Prop :=
  (σ.1 1 i 0 = 102 ∨ σ.1 1 i 0 = 104 ∨ σ.1 1 i 0 = 115) ∧ (50 ≤ σ.1 1 i 1 ∧ σ.1 1 i 1 ≤ 200) ∧ (40 ≤ σ.1 1 i 2 ∧ σ.1 1 i 2 ≤ 140) ∧ (20 ≤ σ.1 1 i 3 ∧ σ.1 1 i 3 ≤ 99)
  ∧ (σ.1 1 i 4 = 115 ∨ σ.1 1 i 4 = 104 ∨ σ.1 1 i 4 = 99) ∧ (0 ≤ σ.1 1 i 6 ∧ σ.1 1 i 6 ≤ 9) ∧ (¬ σ.1 1 i 0 = 115 → σ.1 1 i 6 = 0) ∧ (0 ≤ σ.1 1 i 7 ∧ σ.1 1 i 7 ≤ 66) ∧ (0 ≤ σ.1 1 i 10 ∧ σ.1 1 i 10 ≤ 1100)
  ∧ (σ.1 2 i 4 = 0 ∨ σ.1 2 i 4 = 1) ∧ (σ.1 1 i 4 = 104 → ¬ σ.1 2 i 3 = 0)
/-- the warm -/
def RW (σ : Sg) (i : Nat) : Prop := (σ.1 8 18 i = 0 ∧ σ.1 1 i 9 = 0) ∨ (σ.1 8 18 i = 1 ∧ ((σ.1 8 12 i = 0 ∧ σ.1 1 i 9 = 2) ∨ (σ.1 8 12 i = 1 ∧ σ.1 1 i 9 = 1) ∨ (σ.1 8 12 i = 2 ∧ σ.1 1 i 9 = 0)))
/-- sent away on both sides -/
def RG (σ : Sg) (i : Nat) : Prop := (σ.1 8 19 i = 0 ∧ ¬ σ.1 10 0 i = 0) ∨ (σ.1 8 19 i = 1 ∧ σ.1 10 0 i = 0)
/-- one tooth -/
def RK (σ : Sg) (i k : Nat) : Prop := σ.1 3 i k = plc (σ.1 2 i 0) (σ.1 2 i 2) k ∧ σ.1 8 20 (60 * i + k) = σ.1 4 i k ∧ σ.1 8 21 (60 * i + k) = σ.1 5 i k ∧ (0 ≤ σ.1 4 i k ∧ σ.1 4 i k ≤ 9) ∧ (0 ≤ σ.1 5 i k ∧ σ.1 5 i k ≤ 99)
/-- the teeth -/
def RC (σ : Sg) (i : Nat) : Prop := ∃ c : Nat, c ≤ 60 ∧ σ.1 2 i 3 = nI c ∧ (c = 0 → σ.1 2 i 1 = 0 ∧ σ.1 2 i 4 = 0)
  ∧ (0 < c → σ.1 8 3 i = σ.1 2 i 0 ∧ σ.1 8 8 i = σ.1 2 i 2 ∧ σ.1 2 i 1 = depthF (σ.1 2 i 0) (σ.1 1 i 0) ∧ (0 ≤ σ.1 2 i 2 ∧ σ.1 2 i 2 ≤ 3) ∧ ((σ.1 2 i 0).toUInt32 % 65536).toInt32 = σ.1 2 i 0) ∧ ∀ k, k < c → RK σ i k
def RT (σ : Sg) (i : Nat) : Prop := RA σ i ∧ RB σ i ∧ RW σ i ∧ RG σ i ∧ RC σ i
/-- an order -/
def RO (σ : Sg) (j : Nat) : Prop := σ.1 8 24 j = σ.1 6 j 0 ∧ σ.1 8 25 j = σ.1 6 j 1 ∧ σ.1 8 26 j = σ.1 6 j 2 ∧ σ.1 8 27 j = σ.1 6 j 3 ∧ ¬ σ.1 11 0 j = 0 ∧ (1 ≤ σ.1 6 j 2 ∧ σ.1 6 j 2 ≤ 8) ∧ (0 ≤ σ.1 6 j 3 ∧ σ.1 6 j 3 ≤ σ.1 6 j 2)
/-- the reference's slots of a tool that isn't there yet -/
def RF (σ : Sg) (i : Nat) : Prop := ∀ f, 8 ≤ f → f ≤ 19 → σ.1 8 f i = 0
/-- the two with n tools and m orders -/
def RN (n m : Nat) (σ : Sg) : Prop := n ≤ 8 ∧ m ≤ 6 ∧ σ.1 0 0 1 = nI n ∧ σ.1 0 0 3 = nI m ∧ σ.1 7 0 1 = nI n ∧ σ.1 7 0 23 = nI m ∧ σ.2.1 = (σ.1 7 0 22).toInt64 ∧ 0 ≤ σ.1 7 0 22 ∧ σ.1 7 0 22 < 2147483647
  ∧ (∀ i, n ≤ i → σ.1 10 0 i = 0) ∧ (∀ j, m ≤ j → σ.1 11 0 j = 0) ∧ (∀ i, i < n → RT σ i) ∧ (∀ j, j < m → RO σ j) ∧ (∀ i, n ≤ i → i < 8 → RF σ i) ∧ (∀ j, m ≤ j → j < 6 → σ.1 8 27 j = 0)
def Rl (σ : Sg) : Prop := ∃ n m : Nat, RN n m σ
/-- what belongs to tool i, and the reference's answer code -/
def own (i k i' p : Nat) : Prop := (1 ≤ k ∧ k ≤ 5 ∧ i' = i) ∨ (k = 8 ∧ ((i' < 20 ∧ p = i) ∨ ((i' = 20 ∨ i' = 21) ∧ 60 * i ≤ p ∧ p < 60 * i + 60))) ∨ (k = 7 ∧ p = 0) ∨ (2 ≤ k ∧ k ≤ 5 ∧ i' = 8)
/-- nothing else was touched -/
def Lc (i : Nat) (σ τ : Sg) : Prop := ∀ k i' p, ¬ own i k i' p → τ.1 k i' p = σ.1 k i' p
theorem Lc.rf (i : Nat) (σ : Sg) : Lc i σ σ := fun _ _ _ _ => rfl
theorem Lc.tr {i : Nat} {σ τ ρ : Sg} (h1 : Lc i σ τ) (h2 : Lc i τ ρ) : Lc i σ ρ := fun k i' p h => (h2 k i' p h).trans (h1 k i' p h)
theorem Lc.sv {i : Nat} {σ τ : Sg} (h : Lc i σ τ) (k i' p : Nat) (v : Int32) (ho : own i k i' p) : Lc i σ (sv τ k i' p v) := fun k1 i1 p1 h1 => by
  rw [sv_rd, if_neg (fun q => by obtain ⟨rfl, rfl, rfl⟩ := q; exact h1 ho)]
  exact h k1 i1 p1 h1
theorem Lc.sr {i : Nat} {σ τ : Sg} (h : Lc i σ τ) (k i' : Nat) (g : Nat → Int32) (ho : ∀ p, own i k i' p) : Lc i σ (sr τ k i' g) := fun k1 i1 p1 h1 => by
  rw [sr_rd, if_neg (fun q => by obtain ⟨rfl, rfl⟩ := q; exact h1 (ho _))]
  exact h k1 i1 p1 h1
theorem Lc.o {i : Nat} {σ τ : Sg} (h : Lc i σ τ) (v : Int64) : Lc i σ (svo τ v) := h
theorem Lc.d {i : Nat} {σ τ : Sg} (h : Lc i σ τ) (v : UInt64) : Lc i σ (svd τ v) := h
theorem Lc.z {i : Nat} {σ τ : Sg} (h : Lc i σ τ) (v : Int64) : Lc i σ (svz τ v) := h
theorem RT.mv {σ τ : Sg} {j : Nat} (h : RT σ j) (h1 : ∀ k, 1 ≤ k → k ≤ 5 → ∀ p, τ.1 k j p = σ.1 k j p) (h2 : ∀ f, f ≤ 19 → τ.1 8 f j = σ.1 8 f j) (h3 : ∀ k, k < 60 → τ.1 8 20 (60 * j + k) = σ.1 8 20 (60 * j + k) ∧ τ.1 8 21 (60 * j + k) = σ.1 8 21 (60 * j + k)) (h4 : τ.1 10 0 j = σ.1 10 0 j) : RT τ j := by
  have a1 := h1 1 (by decide) (by decide)
  have a2 := h1 2 (by decide) (by decide)
  have a3 := h1 3 (by decide) (by decide)
  have a4 := h1 4 (by decide) (by decide)
  have a5 := h1 5 (by decide) (by decide)
  obtain ⟨hA, hB, hW, hG, c, hc, hC1, hC2, hC3, hC4⟩ := h
  refine ⟨?_, ?_, ?_, ?_, c, hc, ?_, ?_, ?_, fun k hk => ?_⟩
  · unfold RA at hA ⊢; simp only [a1, a2, h2 2 (by decide), h2 4 (by decide), h2 5 (by decide), h2 6 (by decide), h2 7 (by decide), h2 9 (by decide), h2 10 (by decide), h2 11 (by decide), h2 13 (by decide), h2 14 (by decide), h2 15 (by decide), h2 16 (by decide), h2 17 (by decide)]; exact hA
  · unfold RB at hB ⊢; simp only [a1, a2]; exact hB
  · unfold RW at hW ⊢; simp only [a1, h2 12 (by decide), h2 18 (by decide)]; exact hW
  · unfold RG at hG ⊢; rw [h2 19 (by decide), h4]; exact hG
  · rw [a2]; exact hC1
  · simp only [a2]; exact hC2
  · simp only [a1, a2, h2 3 (by decide), h2 8 (by decide)]; exact hC3
  · have h := hC4 k hk
    have h5 := h3 k (by omega)
    unfold RK at h ⊢
    simp only [a2, a3, a4, a5, h5.1, h5.2]
    exact h
theorem RN.loc {n m i : Nat} {σ τ : Sg} (h : RN n m σ) (hi : i < n) (hL : Lc i σ τ) (hz : τ.2.1 = σ.2.1) (hT : RT τ i) : RN n m τ := by
  obtain ⟨h1, h2, h3, h4, h5, h6, h7, h8, h9, h10, h11, h12, h13, h14, h15⟩ := h
  have e0 : ∀ p, τ.1 0 0 p = σ.1 0 0 p := fun p => hL _ _ _ (by unfold own; omega)
  have e7 : ∀ p, ¬ p = 0 → τ.1 7 0 p = σ.1 7 0 p := fun p hp => hL _ _ _ (by unfold own; omega)
  have e10 : ∀ p, τ.1 10 0 p = σ.1 10 0 p := fun p => hL _ _ _ (by unfold own; omega)
  have e11 : ∀ p, τ.1 11 0 p = σ.1 11 0 p := fun p => hL _ _ _ (by unfold own; omega)
  refine ⟨h1, h2, by rw [e0]; exact h3, by rw [e0]; exact h4, by rw [e7 _ (by decide)]; exact h5, by rw [e7 _ (by decide)]; exact h6, by rw [hz, e7 _ (by decide)]; exact h7, by rw [e7 _ (by decide)]; exact h8, by rw [e7 _ (by decide)]; exact h9,
    fun j hj => by rw [e10]; exact h10 j hj, fun j hj => by rw [e11]; exact h11 j hj, fun j hj => ?_, fun j hj => ?_, fun j hj hj8 f hf hf2 => ?_, fun j hj hj6 => ?_⟩
  · by_cases hji : j = i
    · subst hji; exact hT
    · exact (h12 j hj).mv (fun k k1 k2 p => hL _ _ _ (by unfold own; omega)) (fun f hf => hL _ _ _ (by unfold own; omega)) (fun k hk => ⟨hL _ _ _ (by unfold own; omega), hL _ _ _ (by unfold own; omega)⟩) (e10 j)
  · have h := h13 j hj
    unfold RO at h ⊢
    rw [e11, hL 8 24 j (by unfold own; omega), hL 8 25 j (by unfold own; omega), hL 8 26 j (by unfold own; omega), hL 8 27 j (by unfold own; omega), hL 6 j 0 (by unfold own; omega), hL 6 j 1 (by unfold own; omega), hL 6 j 2 (by unfold own; omega), hL 6 j 3 (by unfold own; omega)]
    exact h
  · rw [hL 8 f j (by unfold own; omega)]; exact h14 j hj hj8 f hf hf2
  · rw [hL 8 27 j (by unfold own; omega)]; exact h15 j hj hj6
/-- nothing but answers was touched -/
def Lq (σ τ : Sg) : Prop := (∀ k i' p, ¬ ((k = 7 ∧ p = 0) ∨ (2 ≤ k ∧ k ≤ 5 ∧ i' = 8)) → τ.1 k i' p = σ.1 k i' p) ∧ τ.2.1 = σ.2.1
theorem RN.q {n m : Nat} {σ τ : Sg} (h : RN n m σ) (hL : Lq σ τ) : RN n m τ := by
  obtain ⟨h1, h2, h3, h4, h5, h6, h7, h8, h9, h10, h11, h12, h13, h14, h15⟩ := h
  obtain ⟨hL, hz⟩ := hL
  have e0 : ∀ p, τ.1 0 0 p = σ.1 0 0 p := fun p => hL _ _ _ (by omega)
  have e7 : ∀ p, ¬ p = 0 → τ.1 7 0 p = σ.1 7 0 p := fun p hp => hL _ _ _ (by omega)
  have e10 : ∀ p, τ.1 10 0 p = σ.1 10 0 p := fun p => hL _ _ _ (by omega)
  have e11 : ∀ p, τ.1 11 0 p = σ.1 11 0 p := fun p => hL _ _ _ (by omega)
  refine ⟨h1, h2, by rw [e0]; exact h3, by rw [e0]; exact h4, by rw [e7 _ (by decide)]; exact h5, by rw [e7 _ (by decide)]; exact h6, by rw [hz, e7 _ (by decide)]; exact h7, by rw [e7 _ (by decide)]; exact h8, by rw [e7 _ (by decide)]; exact h9,
    fun j hj => by rw [e10]; exact h10 j hj, fun j hj => by rw [e11]; exact h11 j hj, fun j hj => ?_, fun j hj => ?_, fun j hj hj8 f hf hf2 => ?_, fun j hj hj6 => ?_⟩
  · exact (h12 j hj).mv (fun k k1 k2 p => hL _ _ _ (by omega)) (fun f hf => hL _ _ _ (by omega)) (fun k hk => ⟨hL _ _ _ (by omega), hL _ _ _ (by omega)⟩) (e10 j)
  · have h := h13 j hj
    unfold RO at h ⊢
    rw [e11, hL 8 24 j (by omega), hL 8 25 j (by omega), hL 8 26 j (by omega), hL 8 27 j (by omega), hL 6 j 0 (by omega), hL 6 j 1 (by omega), hL 6 j 2 (by omega), hL 6 j 3 (by omega)]
    exact h
  · rw [hL 8 f j (by omega)]; exact h14 j hj hj8 f hf hf2
  · rw [hL 8 27 j (by omega)]; exact h15 j hj hj6
theorem Lq.rf (σ : Sg) : Lq σ σ := ⟨fun _ _ _ _ => rfl, rfl⟩
theorem Lq.t {σ τ : Sg} (h : Lq σ τ) (v : Int32) : Lq σ (sv τ 7 0 0 v) := ⟨fun k i' p hk => by rw [sv_rd, if_neg (by omega)]; exact h.1 k i' p hk, h.2⟩
theorem Lq.o {σ τ : Sg} (h : Lq σ τ) (v : Int64) : Lq σ (svo τ v) := h
theorem Lq.d {σ τ : Sg} (h : Lq σ τ) (v : UInt64) : Lq σ (svd τ v) := h
theorem Lq.tr {σ τ ρ : Sg} (h1 : Lq σ τ) (h2 : Lq τ ρ) : Lq σ ρ := ⟨fun k i' p h => (h2.1 k i' p h).trans (h1.1 k i' p h), h2.2.trans h1.2⟩
theorem w_code (τ : Sg) (c : Int32) : f_X4_isWrong τ c = some (if c ≤ 0 then 0 else 1, sv τ 7 0 0 c) := by
  unfold f_X4_isWrong f_X4_isWrong_0
  by_cases h : c ≤ 0
  · rw [if_pos h, if_pos h]
  · rw [if_neg h, if_neg h]
theorem w_0 (τ : Sg) : f_X4_isWrong τ 0 = some (0, sv τ 7 0 0 0) := w_code τ 0
theorem w_1 (τ : Sg) : f_X4_isWrong τ 1 = some (1, sv τ 7 0 0 1) := w_code τ 1
theorem w_2 (τ : Sg) : f_X4_isWrong τ 2 = some (1, sv τ 7 0 0 2) := w_code τ 2
theorem w_3 (τ : Sg) : f_X4_isWrong τ 3 = some (1, sv τ 7 0 0 3) := w_code τ 3
theorem m_bt (σ : Sg) (v lo hi : Int32) : f_X4_isBetween σ v lo hi = some (if v < lo ∨ hi < v then 0 else 1, σ) := by
  unfold f_X4_isBetween f_X4_isBetween_0
  by_cases h1 : v < lo
  · rw [if_pos h1, if_pos (Or.inl h1)]
  · rw [if_neg h1]
    by_cases h2 : hi < v
    · rw [if_pos h2, if_pos (Or.inr h2)]
    · rw [if_neg h2, if_neg (fun h => h.elim h1 h2)]
theorem m_least (σ : Sg) (a b : Int32) : f_X4_least σ a b = some (if b ≤ a then b else a, σ) := by
  unfold f_X4_least f_X4_least_0
  by_cases h : b ≤ a
  · rw [if_pos h, if_pos h]
  · rw [if_neg h, if_neg h]
theorem m_most (σ : Sg) (a b : Int32) : f_X4_most σ a b = some (if a ≤ b then b else a, σ) := by
  unfold f_X4_most f_X4_most_0
  by_cases h : a ≤ b
  · rw [if_pos h, if_pos h]
  · rw [if_neg h, if_neg h]
theorem m_shape (σ : Sg) (x : Int32) : f_X4_isShape σ x = some (if x = 102 ∨ x = 104 ∨ x = 115 then 1 else 0, σ) := by
  unfold f_X4_isShape f_X4_isShape_0 f_X4_isShape_18
  by_cases h1 : x = 102 <;> by_cases h2 : x = 104 <;> by_cases h3 : x = 115 <;> simp [h1, h2, h3]
theorem m_cut (σ : Sg) (x : Int32) : f_X4_isCut σ x = some (if x = 98 ∨ x = 115 ∨ x = 109 then 1 else 0, σ) := by
  unfold f_X4_isCut f_X4_isCut_0 f_X4_isCut_18
  by_cases h1 : x = 98 <;> by_cases h2 : x = 115 <;> by_cases h3 : x = 109 <;> simp [h1, h2, h3]
theorem c_shape (σ : Sg) (x : Int32) : f_X3_needShape σ x = if x = 102 ∨ x = 104 ∨ x = 115 then some (.inr (), σ) else some (.inl 2, σ) := by
  unfold f_X3_needShape f_X3_needShape_0
  by_cases h1 : x = 102 <;> by_cases h2 : x = 104 <;> by_cases h3 : x = 115 <;> simp [h1, h2, h3]
theorem c_cut (σ : Sg) (x : Int32) : f_X3_needCut σ x = if x = 98 ∨ x = 115 ∨ x = 109 then some (.inr (), σ) else some (.inl 2, σ) := by
  unfold f_X3_needCut f_X3_needCut_0
  by_cases h1 : x = 98 <;> by_cases h2 : x = 115 <;> by_cases h3 : x = 109 <;> simp [h1, h2, h3]
theorem c_bath (σ : Sg) (x : Int32) : f_X3_needBath σ x = if x = 111 ∨ x = 119 ∨ x = 98 then some (.inr (), σ) else some (.inl 2, σ) := by
  unfold f_X3_needBath f_X3_needBath_0
  by_cases h1 : x = 111 <;> by_cases h2 : x = 119 <;> by_cases h3 : x = 98 <;> simp [h1, h2, h3]
theorem c_in (σ : Sg) (x lo hi : Int32) : f_X3_needWithin σ x lo hi = if x < lo ∨ hi < x then some (.inl 2, σ) else some (.inr (), σ) := by
  unfold f_X3_needWithin f_X3_needWithin_0
  by_cases h1 : x < lo
  · rw [if_pos h1, if_pos (Or.inl h1)]
  · rw [if_neg h1]
    by_cases h2 : hi < x
    · rw [if_pos (Or.inr h2), if_neg (Int32.not_le.mpr h2)]
    · rw [if_neg (show ¬ (x < lo ∨ hi < x) from fun h => h.elim h1 h2), if_pos (Int32.not_lt.mp h2)]
theorem c_hard (σ : Sg) (i : Nat) : f_X3_needHard σ i = if σ.1 1 i 4 = 104 then some (.inr (), σ) else some (.inl 4, σ) := rfl
theorem c_depth (σ : Sg) (x y : Int32) : f_X3_depthOf σ x y = some (depthF x y, σ) := by
  unfold f_X3_depthOf f_X3_depthOf_0 f_X3_depthOf_23 depthF
  by_cases h1 : x = 98 <;> by_cases h2 : x = 115 <;> by_cases h3 : y = 104 <;> simp [h1, h2, h3]
theorem m_depthOf (σ : Sg) (x y : Int32) : f_X4_depthOf σ x y = some (depthF y x, σ) := by
  unfold f_X4_depthOf f_X4_depthOf_0 f_X4_depthOf_23 f_X4_depthOf_34 depthF
  by_cases h1 : y = 98 <;> by_cases h2 : y = 115 <;> by_cases h3 : x = 104 <;> simp [h1, h2, h3]
theorem c_pitch (σ : Sg) (x : Int32) : f_X3_pitchOf σ x = some (pitchF x, σ) := by
  unfold f_X3_pitchOf f_X3_pitchOf_0 pitchF
  by_cases h1 : x = 98 <;> by_cases h2 : x = 115 <;> simp [h1, h2]
theorem m_pitch (σ : Sg) (x : Int32) : f_X4_pitchOf σ x = some (pitchF x, σ) := by
  unfold f_X4_pitchOf f_X4_pitchOf_0 pitchF
  by_cases h1 : x = 98 <;> by_cases h2 : x = 115 <;> simp [h1, h2]
theorem rem3 {k : Nat} (hk : k < 60) : nI k - nI k / 3 * 3 = nI (k % 3) := pk_rem (a := k) (d := 3) (by omega) (by decide) (by decide)
theorem c_step (σ : Sg) (i : Nat) {k : Nat} (hk : k < 60) : f_X1_stepBehind σ i (nI k) = some (stepF (σ.1 2 i 0) (σ.1 2 i 2) k, σ) := by
  unfold f_X1_stepBehind f_X1_stepBehind_0
  rw [c_pitch]
  simp only [Option.bind_some]
  rw [if_neg (by decide), rem3 hk]
  rfl
theorem m_depth (τ : Sg) {i : Nat} (hi : i < 8) : f_X4_depth τ (nI i) = some (depthF (τ.1 8 3 i) (τ.1 8 2 i), τ) := by
  unfold f_X4_depth f_X4_depth_0
  simp only [h8 hi, if_false, cl8 (show i < 480 by omega), m_depthOf, Option.bind_some]
theorem m_none (τ : Sg) {n i : Nat} (hn : n ≤ 8) (h1 : τ.1 7 0 1 = nI n) (hi : i < n) (hg : τ.1 8 19 i = 0) : f_X4_isNone τ (nI i) = some (0, sv τ 7 0 0 0) := by
  unfold f_X4_isNone f_X4_isNone_0 f_X4_isNone_29
  rw [m_bt, h1]
  have e1 : ¬ (nI i < 0 ∨ nI n - 1 < nI i) := by
    obtain ⟨k, rfl⟩ : ∃ k, n = k + 1 := ⟨n - 1, by omega⟩
    rw [nI_pred]
    exact fun h => h.elim (nI_pos (by omega)) (fun h => nI_nlt (show i ≤ k by omega) (by omega) h)
  rw [if_neg e1]
  simp only [Option.bind_some, if_neg one_ne, h8 (show i < 8 by omega), if_false, cl8 (show i < 480 by omega), hg, if_true, w_0, true_or]
/-- a number that is no tool's, or a tool's that was sent away -/
def Dd (σ : Sg) (n : Nat) (a : Int32) : Prop := ∀ i, i < n → a = nI i → ¬ σ.1 8 19 i = 0
theorem m_dead (τ : Sg) {n : Nat} {a : Int32} (hn : n ≤ 8) (h1 : τ.1 7 0 1 = nI n) (hd : Dd τ n a) : f_X4_isNone τ a = some (1, sv τ 7 0 0 1) := by
  unfold f_X4_isNone f_X4_isNone_0 f_X4_isNone_28 f_X4_isNone_29
  rw [m_bt, h1]
  have hw : (f_X4_isWrong τ 1).bind (fun r2 => if r2.1 = 0 ∨ r2.1 = 1 then some (r2.1, r2.2) else none) = some (1, sv τ 7 0 0 1) := by
    rw [w_1]; rfl
  by_cases h : a < 0 ∨ nI n - 1 < a
  · rw [if_pos h]
    simp only [Option.bind_some, if_true]
    exact hw
  · rw [if_neg h]
    simp only [Option.bind_some, if_neg one_ne]
    obtain ⟨i, hi31, rfl⟩ := nI_of (fun q => h (Or.inl q))
    have hi : i < n := by
      rcases Nat.lt_or_ge i n with q | q
      · exact q
      · refine absurd (Or.inr ?_) h
        rcases n with _ | n
        · rw [show nI 0 - 1 = -1 by decide]
          exact Int32.lt_iff_toInt_lt.mpr (by rw [nI_toInt hi31, show ((-1 : Int32)).toInt = -1 by decide]; omega)
        · rw [nI_pred]; exact nI_lt (by omega) hi31
    simp only [h8 (show i < 8 by omega), if_false, cl8 (show i < 480 by omega), if_neg (hd i hi rfl)]
    exact hw
theorem t_dead (σ : Sg) {n m : Nat} {a : Int32} (h : RN n m σ) (hd : Dd σ n a) : f_X3_needTool σ a = some (.inl 1, σ) := by
  unfold f_X3_needTool f_X3_needTool_0
  by_cases h1 : a < 0
  · rw [if_pos h1]
  · rw [if_neg h1]
    by_cases h2 : 8 ≤ a
    · rw [if_pos h2]
    · rw [if_neg h2]
      obtain ⟨i, hi31, rfl⟩ := nI_of h1
      have hi8 : i < 8 := by
        rcases Nat.lt_or_ge i 8 with q | q
        · exact q
        · exact absurd (by rw [lz8]; exact nI_le q hi31) h2
      rw [if_neg (fun q => by rw [g8 hi8] at q; exact q), cl8 (by omega)]
      have hz : σ.1 10 0 i = 0 := by
        rcases Nat.lt_or_ge i n with q | q
        · obtain ⟨-, -, -, hG, -⟩ := h.2.2.2.2.2.2.2.2.2.2.2.1 i q
          rcases hG with hG | hG
          · exact absurd hG.1 (hd i q rfl)
          · exact hG.2
        · exact h.2.2.2.2.2.2.2.2.2.1 i q
      rw [if_pos hz]
theorem t_live (σ : Sg) {i : Nat} (hi : i < 8) (hg : ¬ σ.1 10 0 i = 0) : f_X3_needTool σ (nI i) = some (.inr i, σ) := by
  unfold f_X3_needTool f_X3_needTool_0
  rw [if_neg (nI_pos (by omega)), if_neg (by rw [lz8]; exact nI_ge hi (by decide)), if_neg (fun q => by rw [g8 hi] at q; exact q), cl8 (by omega), if_neg hg, if_neg (fun q => by rw [h8 hi] at q; exact q), if_neg hg]
/-- a tool's number is dead, or it is a tool's that is here on both sides -/
theorem t_cases {σ : Sg} {n m : Nat} (h : RN n m σ) (a : Int32) : Dd σ n a ∨ ∃ i, i < n ∧ i < 8 ∧ a = nI i ∧ σ.1 8 19 i = 0 ∧ ¬ σ.1 10 0 i = 0 ∧ RT σ i := by
  by_cases hd : Dd σ n a
  · exact Or.inl hd
  · refine Or.inr ?_
    obtain ⟨i, hi⟩ := Classical.not_forall.mp hd
    have ⟨h1, h2⟩ := Classical.not_imp.mp hi
    have ⟨h3, h4⟩ := Classical.not_imp.mp h2
    have h5 := Classical.not_not.mp h4
    have hT := h.2.2.2.2.2.2.2.2.2.2.2.1 i h1
    refine ⟨i, h1, Nat.lt_of_lt_of_le h1 h.1, h3, h5, ?_, hT⟩
    rcases hT.2.2.2.1 with hG | hG
    · exact hG.2
    · rw [hG.1] at h5; exact absurd h5 (by decide)
/-- what an operation that answers an int owes -/
def OK (L : Option (Int32 × Sg)) (M : Sg → Option (Int32 × Sg)) : Prop := ∃ c σ1 b σ2, L = some (c, σ1) ∧ M σ1 = some (b, σ2) ∧ σ2.1 7 0 0 = c ∧ (c = 0 → σ2.2.2.1 = b.toInt64) ∧ Rl σ2
theorem sv_t (τ : Sg) (v : Int32) : (sv τ 7 0 0 v).1 7 0 0 = v := by rw [sv_rd, if_pos ⟨rfl, rfl, rfl⟩]
theorem OK.dead {σ : Sg} {n m : Nat} (h : RN n m σ) {L : Option (Int32 × Sg)} {M : Sg → Option (Int32 × Sg)} (hL : L = some (1, σ)) (hM : M σ = some (0, sv σ 7 0 0 1)) : OK L M :=
  ⟨1, σ, 0, sv σ 7 0 0 1, hL, hM, sv_t _ _, fun q => absurd q one_ne, n, m, h.q ((Lq.rf σ).t 1)⟩
/-- refused with a code, nothing changed -/
theorem OK.no {σ : Sg} {n m : Nat} (h : RN n m σ) {L : Option (Int32 × Sg)} {M : Sg → Option (Int32 × Sg)} (c : Int32) {τ τ2 : Sg} (hτ : Lq σ τ2) (hL : L = some (c, τ)) {b : Int32} (hM : M τ = some (b, sv τ2 7 0 0 c)) (hc : ¬ c = 0) : OK L M :=
  ⟨c, τ, b, sv τ2 7 0 0 c, hL, hM, sv_t _ _, fun q => absurd q hc, n, m, h.q (hτ.t c)⟩
theorem RN.n8 {n m : Nat} {σ : Sg} (h : RN n m σ) : n ≤ 8 := h.1
theorem RN.m6 {n m : Nat} {σ : Sg} (h : RN n m σ) : m ≤ 6 := h.2.1
theorem RN.c0 {n m : Nat} {σ : Sg} (h : RN n m σ) : σ.1 0 0 1 = nI n := h.2.2.1
theorem RN.o0 {n m : Nat} {σ : Sg} (h : RN n m σ) : σ.1 0 0 3 = nI m := h.2.2.2.1
theorem RN.c7 {n m : Nat} {σ : Sg} (h : RN n m σ) : σ.1 7 0 1 = nI n := h.2.2.2.2.1
theorem RN.o7 {n m : Nat} {σ : Sg} (h : RN n m σ) : σ.1 7 0 23 = nI m := h.2.2.2.2.2.1
theorem X_cut {σ : Sg} {n m : Nat} (h : RN n m σ) {a : Int32} (hd : Dd σ n a) (b c : Int32) : f_L_cut σ a b c = some (1, σ) := by
  unfold f_L_cut f_X3_cut f_X3_cut_0
  rw [t_dead σ h hd]
  rfl
theorem M_cut {τ : Sg} {n : Nat} (hn : n ≤ 8) (h1 : τ.1 7 0 1 = nI n) {a : Int32} (hd : Dd τ n a) (b c : Int32) : f_X4_cut τ a b c = some (0, sv τ 7 0 0 1) := by
  unfold f_X4_cut f_X4_cut_0
  rw [m_dead τ hn h1 hd]
  simp only [Option.bind_some, if_neg one_ne]
theorem X_upcut {σ : Sg} {n m : Nat} (h : RN n m σ) {a : Int32} (hd : Dd σ n a) : f_L_upcut σ a = some (1, σ) := by
  unfold f_L_upcut f_X3_upcut f_X3_upcut_0
  rw [t_dead σ h hd]
  rfl
theorem M_upcut {τ : Sg} {n : Nat} (hn : n ≤ 8) (h1 : τ.1 7 0 1 = nI n) {a : Int32} (hd : Dd τ n a) : f_X4_upcut τ a = some (0, sv τ 7 0 0 1) := by
  unfold f_X4_upcut f_X4_upcut_0
  rw [m_dead τ hn h1 hd]
  simp only [Option.bind_some, if_neg one_ne]
theorem X_teeth {σ : Sg} {n m : Nat} (h : RN n m σ) {a : Int32} (hd : Dd σ n a) : f_L_teeth σ a = some (1, σ) := by
  unfold f_L_teeth f_X3_teeth f_X3_teeth_0
  rw [t_dead σ h hd]
  rfl
theorem M_teeth {τ : Sg} {n : Nat} (hn : n ≤ 8) (h1 : τ.1 7 0 1 = nI n) {a : Int32} (hd : Dd τ n a) : f_X4_teeth τ a = some (0, sv τ 7 0 0 1) := by
  unfold f_X4_teeth f_X4_teeth_0
  rw [m_dead τ hn h1 hd]
  simp only [Option.bind_some, if_neg one_ne]
theorem X_place {σ : Sg} {n m : Nat} (h : RN n m σ) {a : Int32} (hd : Dd σ n a) (b : Int32) : f_L_place σ a b = some (1, σ) := by
  unfold f_L_place f_X3_place f_X3_place_0
  rw [t_dead σ h hd]
  rfl
theorem M_place {τ : Sg} {n : Nat} (hn : n ≤ 8) (h1 : τ.1 7 0 1 = nI n) {a : Int32} (hd : Dd τ n a) (b : Int32) : f_X4_place τ a b = some (0, sv τ 7 0 0 1) := by
  unfold f_X4_place f_X4_place_0
  unfold f_X4_isNoTooth f_X4_isNoTooth_0
  rw [m_dead τ hn h1 hd]
  simp only [Option.bind_some, if_neg one_ne, f_X4_isNoTooth_36]
theorem X_height {σ : Sg} {n m : Nat} (h : RN n m σ) {a : Int32} (hd : Dd σ n a) (b : Int32) : f_L_height σ a b = some (1, σ) := by
  unfold f_L_height f_X3_height f_X3_height_0
  rw [t_dead σ h hd]
  rfl
theorem M_height {τ : Sg} {n : Nat} (hn : n ≤ 8) (h1 : τ.1 7 0 1 = nI n) {a : Int32} (hd : Dd τ n a) (b : Int32) : f_X4_height τ a b = some (0, sv τ 7 0 0 1) := by
  unfold f_X4_height f_X4_height_0
  unfold f_X4_isNoTooth f_X4_isNoTooth_0
  rw [m_dead τ hn h1 hd]
  simp only [Option.bind_some, if_neg one_ne, f_X4_isNoTooth_36]
theorem X_wear {σ : Sg} {n m : Nat} (h : RN n m σ) {a : Int32} (hd : Dd σ n a) (b : Int32) : f_L_wear σ a b = some (1, σ) := by
  unfold f_L_wear f_X3_wear f_X3_wear_0
  rw [t_dead σ h hd]
  rfl
theorem M_wear {τ : Sg} {n : Nat} (hn : n ≤ 8) (h1 : τ.1 7 0 1 = nI n) {a : Int32} (hd : Dd τ n a) (b : Int32) : f_X4_wear τ a b = some (0, sv τ 7 0 0 1) := by
  unfold f_X4_wear f_X4_wear_0
  unfold f_X4_isNoTooth f_X4_isNoTooth_0
  rw [m_dead τ hn h1 hd]
  simp only [Option.bind_some, if_neg one_ne, f_X4_isNoTooth_36]
theorem X_sings {σ : Sg} {n m : Nat} (h : RN n m σ) {a : Int32} (hd : Dd σ n a) : f_L_sings σ a = some (1, σ) := by
  unfold f_L_sings f_X3_sings f_X3_sings_0
  rw [t_dead σ h hd]
  rfl
theorem M_sings {τ : Sg} {n : Nat} (hn : n ≤ 8) (h1 : τ.1 7 0 1 = nI n) {a : Int32} (hd : Dd τ n a) : f_X4_sings τ a = some (0, sv τ 7 0 0 1) := by
  unfold f_X4_sings f_X4_sings_0
  rw [m_dead τ hn h1 hd]
  simp only [Option.bind_some, if_neg one_ne]
theorem X_set {σ : Sg} {n m : Nat} (h : RN n m σ) {a : Int32} (hd : Dd σ n a) (b : Int32) : f_L_set σ a b = some (1, σ) := by
  unfold f_L_set f_X3_set f_X3_set_0
  rw [t_dead σ h hd]
  rfl
theorem M_set {τ : Sg} {n : Nat} (hn : n ≤ 8) (h1 : τ.1 7 0 1 = nI n) {a : Int32} (hd : Dd τ n a) (b : Int32) : f_X4_set τ a b = some (0, sv τ 7 0 0 1) := by
  unfold f_X4_set f_X4_set_0
  rw [m_dead τ hn h1 hd]
  simp only [Option.bind_some, if_neg one_ne]
theorem X_kerf {σ : Sg} {n m : Nat} (h : RN n m σ) {a : Int32} (hd : Dd σ n a) : f_L_kerf σ a = some (1, σ) := by
  unfold f_L_kerf f_X3_kerf f_X3_kerf_0
  rw [t_dead σ h hd]
  rfl
theorem M_kerf {τ : Sg} {n : Nat} (hn : n ≤ 8) (h1 : τ.1 7 0 1 = nI n) {a : Int32} (hd : Dd τ n a) : f_X4_kerf τ a = some (0, sv τ 7 0 0 1) := by
  unfold f_X4_kerf f_X4_kerf_0
  rw [m_dead τ hn h1 hd]
  simp only [Option.bind_some, if_neg one_ne]
theorem X_gullets {σ : Sg} {n m : Nat} (h : RN n m σ) {a : Int32} (hd : Dd σ n a) : f_L_gullets σ a = some (1, σ) := by
  unfold f_L_gullets f_X3_gullets f_X3_gullets_0
  rw [t_dead σ h hd]
  rfl
theorem M_gullets {τ : Sg} {n : Nat} (hn : n ≤ 8) (h1 : τ.1 7 0 1 = nI n) {a : Int32} (hd : Dd τ n a) : f_X4_gullets τ a = some (0, sv τ 7 0 0 1) := by
  unfold f_X4_gullets f_X4_gullets_0
  rw [m_dead τ hn h1 hd]
  simp only [Option.bind_some, if_neg one_ne]
theorem X_thickness {σ : Sg} {n m : Nat} (h : RN n m σ) {a : Int32} (hd : Dd σ n a) : f_L_thickness σ a = some (1, σ) := by
  unfold f_L_thickness f_X3_thickness f_X3_thickness_0
  rw [t_dead σ h hd]
  rfl
theorem M_thickness {τ : Sg} {n : Nat} (hn : n ≤ 8) (h1 : τ.1 7 0 1 = nI n) {a : Int32} (hd : Dd τ n a) : f_X4_thickness τ a = some (0, sv τ 7 0 0 1) := by
  unfold f_X4_thickness f_X4_thickness_0
  rw [m_dead τ hn h1 hd]
  simp only [Option.bind_some, if_neg one_ne]
theorem X_state {σ : Sg} {n m : Nat} (h : RN n m σ) {a : Int32} (hd : Dd σ n a) : f_L_state σ a = some (1, σ) := by
  unfold f_L_state f_X3_state f_X3_state_0
  rw [t_dead σ h hd]
  rfl
theorem M_state {τ : Sg} {n : Nat} (hn : n ≤ 8) (h1 : τ.1 7 0 1 = nI n) {a : Int32} (hd : Dd τ n a) : f_X4_state τ a = some (0, sv τ 7 0 0 1) := by
  unfold f_X4_state f_X4_state_0
  rw [m_dead τ hn h1 hd]
  simp only [Option.bind_some, if_neg one_ne]
theorem X_harden {σ : Sg} {n m : Nat} (h : RN n m σ) {a : Int32} (hd : Dd σ n a) (b c : Int32) : f_L_harden σ a b c = some (1, σ) := by
  unfold f_L_harden f_X3_harden f_X3_harden_0
  rw [t_dead σ h hd]
  rfl
theorem M_harden {τ : Sg} {n : Nat} (hn : n ≤ 8) (h1 : τ.1 7 0 1 = nI n) {a : Int32} (hd : Dd τ n a) (b c : Int32) : f_X4_harden τ a b c = some (0, sv τ 7 0 0 1) := by
  unfold f_X4_harden f_X4_harden_0
  rw [m_dead τ hn h1 hd]
  simp only [Option.bind_some, if_neg one_ne]
theorem X_hardness {σ : Sg} {n m : Nat} (h : RN n m σ) {a : Int32} (hd : Dd σ n a) : f_L_hardness σ a = some (1, σ) := by
  unfold f_L_hardness f_X3_hardness f_X3_hardness_0
  rw [t_dead σ h hd]
  rfl
theorem M_hardness {τ : Sg} {n : Nat} (hn : n ≤ 8) (h1 : τ.1 7 0 1 = nI n) {a : Int32} (hd : Dd τ n a) : f_X4_hardness τ a = some (0, sv τ 7 0 0 1) := by
  unfold f_X4_hardness f_X4_hardness_0
  rw [m_dead τ hn h1 hd]
  simp only [Option.bind_some, if_neg one_ne]
theorem X_bend {σ : Sg} {n m : Nat} (h : RN n m σ) {a : Int32} (hd : Dd σ n a) : f_L_bend σ a = some (1, σ) := by
  unfold f_L_bend f_X3_bend f_X3_bend_0
  rw [t_dead σ h hd]
  rfl
theorem M_bend {τ : Sg} {n : Nat} (hn : n ≤ 8) (h1 : τ.1 7 0 1 = nI n) {a : Int32} (hd : Dd τ n a) : f_X4_bend τ a = some (0, sv τ 7 0 0 1) := by
  unfold f_X4_bend f_X4_bend_0
  rw [m_dead τ hn h1 hd]
  simp only [Option.bind_some, if_neg one_ne]
theorem X_temper {σ : Sg} {n m : Nat} (h : RN n m σ) {a : Int32} (hd : Dd σ n a) (b : Int32) : f_L_temper σ a b = some (1, σ) := by
  unfold f_L_temper f_X3_temper f_X3_temper_0
  rw [t_dead σ h hd]
  rfl
theorem M_temper {τ : Sg} {n : Nat} (hn : n ≤ 8) (h1 : τ.1 7 0 1 = nI n) {a : Int32} (hd : Dd τ n a) (b : Int32) : f_X4_temper τ a b = some (0, sv τ 7 0 0 1) := by
  unfold f_X4_temper f_X4_temper_0
  rw [m_dead τ hn h1 hd]
  simp only [Option.bind_some, if_neg one_ne]
theorem X_straighten {σ : Sg} {n m : Nat} (h : RN n m σ) {a : Int32} (hd : Dd σ n a) (b : Int32) : f_L_straighten σ a b = some (1, σ) := by
  unfold f_L_straighten f_X3_straighten f_X3_straighten_0
  rw [t_dead σ h hd]
  rfl
theorem M_straighten {τ : Sg} {n : Nat} (hn : n ≤ 8) (h1 : τ.1 7 0 1 = nI n) {a : Int32} (hd : Dd τ n a) (b : Int32) : f_X4_straighten τ a b = some (0, sv τ 7 0 0 1) := by
  unfold f_X4_straighten f_X4_straighten_0
  rw [m_dead τ hn h1 hd]
  simp only [Option.bind_some, if_neg one_ne]
theorem X_strokes {σ : Sg} {n m : Nat} (h : RN n m σ) {a : Int32} (hd : Dd σ n a) (b c : Int32) : f_L_strokes σ a b c = some (1, σ) := by
  unfold f_L_strokes f_X3_strokes f_X3_strokes_0
  rw [t_dead σ h hd]
  rfl
theorem M_strokes {τ : Sg} {n : Nat} (hn : n ≤ 8) (h1 : τ.1 7 0 1 = nI n) {a : Int32} (hd : Dd τ n a) (b c : Int32) : f_X4_strokes τ a b c = some (0, sv τ 7 0 0 1) := by
  unfold f_X4_strokes f_X4_strokes_0
  rw [m_dead τ hn h1 hd]
  simp only [Option.bind_some, if_neg one_ne]
theorem X_chips {σ : Sg} {n m : Nat} (h : RN n m σ) {a : Int32} (hd : Dd σ n a) : f_L_chips σ a = some (1, σ) := by
  unfold f_L_chips f_X3_chips f_X3_chips_0
  rw [t_dead σ h hd]
  rfl
theorem M_chips {τ : Sg} {n : Nat} (hn : n ≤ 8) (h1 : τ.1 7 0 1 = nI n) {a : Int32} (hd : Dd τ n a) : f_X4_chips τ a = some (0, sv τ 7 0 0 1) := by
  unfold f_X4_chips f_X4_chips_0
  rw [m_dead τ hn h1 hd]
  simp only [Option.bind_some, if_neg one_ne]
theorem X_brush {σ : Sg} {n m : Nat} (h : RN n m σ) {a : Int32} (hd : Dd σ n a) : f_L_brush σ a = some (1, σ) := by
  unfold f_L_brush f_X3_brush f_X3_brush_0
  rw [t_dead σ h hd]
  rfl
theorem M_brush {τ : Sg} {n : Nat} (hn : n ≤ 8) (h1 : τ.1 7 0 1 = nI n) {a : Int32} (hd : Dd τ n a) : f_X4_brush τ a = some (0, sv τ 7 0 0 1) := by
  unfold f_X4_brush f_X4_brush_0
  rw [m_dead τ hn h1 hd]
  simp only [Option.bind_some, if_neg one_ne]
theorem X_work {σ : Sg} {n m : Nat} (h : RN n m σ) {a : Int32} (hd : Dd σ n a) : f_L_work σ a = some (1, σ) := by
  unfold f_L_work f_X3_work f_X3_work_0
  rw [t_dead σ h hd]
  rfl
theorem M_work {τ : Sg} {n : Nat} (hn : n ≤ 8) (h1 : τ.1 7 0 1 = nI n) {a : Int32} (hd : Dd τ n a) : f_X4_work τ a = some (0, sv τ 7 0 0 1) := by
  unfold f_X4_work f_X4_work_0
  rw [m_dead τ hn h1 hd]
  simp only [Option.bind_some, if_neg one_ne]
theorem X_soften {σ : Sg} {n m : Nat} (h : RN n m σ) {a : Int32} (hd : Dd σ n a) : f_L_soften σ a = some (1, σ) := by
  unfold f_L_soften f_X3_soften f_X3_soften_0
  rw [t_dead σ h hd]
  rfl
theorem M_soften {τ : Sg} {n : Nat} (hn : n ≤ 8) (h1 : τ.1 7 0 1 = nI n) {a : Int32} (hd : Dd τ n a) : f_X4_soften τ a = some (0, sv τ 7 0 0 1) := by
  unfold f_X4_soften f_X4_soften_0
  rw [m_dead τ hn h1 hd]
  simp only [Option.bind_some, if_neg one_ne]
theorem X_grind {σ : Sg} {n m : Nat} (h : RN n m σ) {a : Int32} (hd : Dd σ n a) : f_L_grind σ a = some (1, σ) := by
  unfold f_L_grind f_X3_grind f_X3_grind_0
  rw [t_dead σ h hd]
  rfl
theorem M_grind {τ : Sg} {n : Nat} (hn : n ≤ 8) (h1 : τ.1 7 0 1 = nI n) {a : Int32} (hd : Dd τ n a) : f_X4_grind τ a = some (0, sv τ 7 0 0 1) := by
  unfold f_X4_grind f_X4_grind_0
  rw [m_dead τ hn h1 hd]
  simp only [Option.bind_some, if_neg one_ne]
theorem X_recuts {σ : Sg} {n m : Nat} (h : RN n m σ) {a : Int32} (hd : Dd σ n a) : f_L_recuts σ a = some (1, σ) := by
  unfold f_L_recuts f_X3_recuts f_X3_recuts_0
  rw [t_dead σ h hd]
  rfl
theorem M_recuts {τ : Sg} {n : Nat} (hn : n ≤ 8) (h1 : τ.1 7 0 1 = nI n) {a : Int32} (hd : Dd τ n a) : f_X4_recuts τ a = some (0, sv τ 7 0 0 1) := by
  unfold f_X4_recuts f_X4_recuts_0
  rw [m_dead τ hn h1 hd]
  simp only [Option.bind_some, if_neg one_ne]
theorem X_recutsLeft {σ : Sg} {n m : Nat} (h : RN n m σ) {a : Int32} (hd : Dd σ n a) (b : Int32) : f_L_recutsLeft σ a b = some (1, σ) := by
  unfold f_L_recutsLeft f_X3_recutsLeft f_X3_recutsLeft_0
  rw [t_dead σ h hd]
  rfl
theorem M_recutsLeft {τ : Sg} {n : Nat} (hn : n ≤ 8) (h1 : τ.1 7 0 1 = nI n) {a : Int32} (hd : Dd τ n a) (b : Int32) : f_X4_recutsLeft τ a b = some (0, sv τ 7 0 0 1) := by
  unfold f_X4_recutsLeft f_X4_recutsLeft_0
  rw [m_dead τ hn h1 hd]
  simp only [Option.bind_some, if_neg one_ne]
theorem X_isGood {σ : Sg} {n m : Nat} (h : RN n m σ) {a : Int32} (hd : Dd σ n a) (b : Int32) : f_L_isGood σ a b = some (1, σ) := by
  unfold f_L_isGood f_X3_isGood f_X3_isGood_0
  rw [t_dead σ h hd]
  rfl
theorem M_isGood {τ : Sg} {n : Nat} (hn : n ≤ 8) (h1 : τ.1 7 0 1 = nI n) {a : Int32} (hd : Dd τ n a) (b : Int32) : f_X4_isGood τ a b = some (0, sv τ 7 0 0 1) := by
  unfold f_X4_isGood f_X4_isGood_0
  rw [m_dead τ hn h1 hd]
  simp only [Option.bind_some, if_neg one_ne]
theorem X_send {σ : Sg} {n m : Nat} (h : RN n m σ) {a : Int32} (hd : Dd σ n a) (b : Int32) : f_L_send σ a b = some (1, σ) := by
  unfold f_L_send f_X3_send f_X3_send_0
  rw [t_dead σ h hd]
  rfl
theorem M_send {τ : Sg} {n : Nat} (hn : n ≤ 8) (h1 : τ.1 7 0 1 = nI n) {a : Int32} (hd : Dd τ n a) (b : Int32) : f_X4_send τ a b = some (0, sv τ 7 0 0 1) := by
  unfold f_X4_send f_X4_send_0
  rw [m_dead τ hn h1 hd]
  simp only [Option.bind_some, if_neg one_ne]
theorem t8 (τ : Sg) (v : Int32) (f p : Nat) : (sv τ 7 0 0 v).1 8 f p = τ.1 8 f p := rfl
theorem m_no {σ : Sg} (v : Int64) {n i : Nat} (hn : n ≤ 8) (h1 : σ.1 7 0 1 = nI n) (hi : i < n) (hg : σ.1 8 19 i = 0) : f_X4_isNone (svo σ v) (nI i) = some (0, sv (svo σ v) 7 0 0 0) := m_none (svo σ v) hn h1 hi hg
theorem OK.yes {n m : Nat} {L : Option (Int32 × Sg)} {M : Sg → Option (Int32 × Sg)} {τ τ2 : Sg} {v : Int32} (hL : L = some (0, τ)) (hM : M τ = some (v, τ2)) (h0 : τ2.1 7 0 0 = 0) (ho : τ2.2.2.1 = v.toInt64) (hR : RN n m τ2) : OK L M :=
  ⟨0, τ, v, τ2, hL, hM, h0, fun _ => ho, n, m, hR⟩
/-- an answer, nothing else changed -/
theorem OK.get {σ : Sg} {n m : Nat} (h : RN n m σ) {L : Option (Int32 × Sg)} {M : Sg → Option (Int32 × Sg)} {v : Int32} (hL : L = some (0, svo σ v.toInt64)) (hM : M (svo σ v.toInt64) = some (v, sv (svo σ v.toInt64) 7 0 0 0)) : OK L M :=
  OK.yes hL hM (sv_t _ _) rfl (h.q (((Lq.rf σ).o _).t 0))
theorem OK_teeth {σ : Sg} {n m : Nat} (h : RN n m σ) (a : Int32) : OK (f_L_teeth σ a) (fun τ => f_X4_teeth τ a) := by
  rcases t_cases h a with hd | ⟨i, hi, hi8, rfl, hg, hf, hA, hB, hW, hG, hC⟩
  · exact OK.dead h (X_teeth h hd) (M_teeth h.n8 h.c7 hd)
  · refine OK.get h (v := σ.1 2 i 3) ?_ ?_
    · unfold f_L_teeth f_X3_teeth f_X3_teeth_0
      rw [t_live σ hi8 hf]; rfl
    · unfold f_X4_teeth f_X4_teeth_0
      rw [m_no _ h.n8 h.c7 hi hg]
      simp only [Option.bind_some, if_true, h8 hi8, if_false, cl8 (show i < 480 by omega)]
      rw [sv_rd, if_neg (by omega), svo_1, hA.2.2.2.2.2.2.2.2.2.2.2.1]
theorem OK_thickness {σ : Sg} {n m : Nat} (h : RN n m σ) (a : Int32) : OK (f_L_thickness σ a) (fun τ => f_X4_thickness τ a) := by
  rcases t_cases h a with hd | ⟨i, hi, hi8, rfl, hg, hf, hA, hB, hW, hG, hC⟩
  · exact OK.dead h (X_thickness h hd) (M_thickness h.n8 h.c7 hd)
  · refine OK.get h (v := σ.1 1 i 3) ?_ ?_
    · unfold f_L_thickness f_X3_thickness f_X3_thickness_0
      rw [t_live σ hi8 hf]; rfl
    · unfold f_X4_thickness f_X4_thickness_0
      rw [m_no _ h.n8 h.c7 hi hg]
      simp only [Option.bind_some, if_true, h8 hi8, if_false, cl8 (show i < 480 by omega)]
      rw [sv_rd, if_neg (by omega), svo_1, hA.2.2.2.1]
theorem OK_hardness {σ : Sg} {n m : Nat} (h : RN n m σ) (a : Int32) : OK (f_L_hardness σ a) (fun τ => f_X4_hardness τ a) := by
  rcases t_cases h a with hd | ⟨i, hi, hi8, rfl, hg, hf, hA, hB, hW, hG, hC⟩
  · exact OK.dead h (X_hardness h hd) (M_hardness h.n8 h.c7 hd)
  · refine OK.get h (v := σ.1 1 i 7) ?_ ?_
    · unfold f_L_hardness f_X3_hardness f_X3_hardness_0
      rw [t_live σ hi8 hf]; rfl
    · unfold f_X4_hardness f_X4_hardness_0
      rw [m_no _ h.n8 h.c7 hi hg]
      simp only [Option.bind_some, if_true, h8 hi8, if_false, cl8 (show i < 480 by omega)]
      rw [sv_rd, if_neg (by omega), svo_1, hA.2.2.2.2.2.2.1]
theorem OK_bend {σ : Sg} {n m : Nat} (h : RN n m σ) (a : Int32) : OK (f_L_bend σ a) (fun τ => f_X4_bend τ a) := by
  rcases t_cases h a with hd | ⟨i, hi, hi8, rfl, hg, hf, hA, hB, hW, hG, hC⟩
  · exact OK.dead h (X_bend h hd) (M_bend h.n8 h.c7 hd)
  · refine OK.get h (v := σ.1 1 i 8) ?_ ?_
    · unfold f_L_bend f_X3_bend f_X3_bend_0
      rw [t_live σ hi8 hf]; rfl
    · unfold f_X4_bend f_X4_bend_0
      rw [m_no _ h.n8 h.c7 hi hg]
      simp only [Option.bind_some, if_true, h8 hi8, if_false, cl8 (show i < 480 by omega)]
      rw [sv_rd, if_neg (by omega), svo_1, hA.2.2.2.2.2.2.2.1]
theorem OK_chips {σ : Sg} {n m : Nat} (h : RN n m σ) (a : Int32) : OK (f_L_chips σ a) (fun τ => f_X4_chips τ a) := by
  rcases t_cases h a with hd | ⟨i, hi, hi8, rfl, hg, hf, hA, hB, hW, hG, hC⟩
  · exact OK.dead h (X_chips h hd) (M_chips h.n8 h.c7 hd)
  · refine OK.get h (v := σ.1 1 i 10) ?_ ?_
    · unfold f_L_chips f_X3_chips f_X3_chips_0
      rw [t_live σ hi8 hf]; rfl
    · unfold f_X4_chips f_X4_chips_0
      rw [m_no _ h.n8 h.c7 hi hg]
      simp only [Option.bind_some, if_true, h8 hi8, if_false, cl8 (show i < 480 by omega)]
      rw [sv_rd, if_neg (by omega), svo_1, hA.2.2.2.2.2.2.2.2.1]
theorem OK_work {σ : Sg} {n m : Nat} (h : RN n m σ) (a : Int32) : OK (f_L_work σ a) (fun τ => f_X4_work τ a) := by
  rcases t_cases h a with hd | ⟨i, hi, hi8, rfl, hg, hf, hA, hB, hW, hG, hC⟩
  · exact OK.dead h (X_work h hd) (M_work h.n8 h.c7 hd)
  · refine OK.get h (v := σ.1 1 i 12) ?_ ?_
    · unfold f_L_work f_X3_work f_X3_work_0
      rw [t_live σ hi8 hf]; rfl
    · unfold f_X4_work f_X4_work_0
      rw [m_no _ h.n8 h.c7 hi hg]
      simp only [Option.bind_some, if_true, h8 hi8, if_false, cl8 (show i < 480 by omega)]
      rw [sv_rd, if_neg (by omega), svo_1, hA.2.2.2.2.2.2.2.2.2.1]
theorem OK_recuts {σ : Sg} {n m : Nat} (h : RN n m σ) (a : Int32) : OK (f_L_recuts σ a) (fun τ => f_X4_recuts τ a) := by
  rcases t_cases h a with hd | ⟨i, hi, hi8, rfl, hg, hf, hA, hB, hW, hG, hC⟩
  · exact OK.dead h (X_recuts h hd) (M_recuts h.n8 h.c7 hd)
  · refine OK.get h (v := σ.1 1 i 13) ?_ ?_
    · unfold f_L_recuts f_X3_recuts f_X3_recuts_0
      rw [t_live σ hi8 hf]; rfl
    · unfold f_X4_recuts f_X4_recuts_0
      rw [m_no _ h.n8 h.c7 hi hg]
      simp only [Option.bind_some, if_true, h8 hi8, if_false, cl8 (show i < 480 by omega)]
      rw [sv_rd, if_neg (by omega), svo_1, hA.2.2.2.2.2.2.2.2.2.2.1]
theorem OK_kerf {σ : Sg} {n m : Nat} (h : RN n m σ) (a : Int32) : OK (f_L_kerf σ a) (fun τ => f_X4_kerf τ a) := by
  rcases t_cases h a with hd | ⟨i, hi, hi8, rfl, hg, hf, hA, hB, hW, hG, hC⟩
  · exact OK.dead h (X_kerf h hd) (M_kerf h.n8 h.c7 hd)
  · refine OK.get h (v := σ.1 1 i 3 + 2 * σ.1 1 i 6) ?_ ?_
    · unfold f_L_kerf f_X3_kerf f_X3_kerf_0
      rw [t_live σ hi8 hf]; rfl
    · unfold f_X4_kerf f_X4_kerf_0
      rw [m_no _ h.n8 h.c7 hi hg]
      simp only [Option.bind_some, if_true, h8 hi8, if_false, cl8 (show i < 480 by omega)]
      rw [sv_rd, if_neg (by omega), sv_rd, if_neg (by omega), svo_1, hA.2.2.2.1, hA.2.2.2.2.2.1]
theorem OK_state {σ : Sg} {n m : Nat} (h : RN n m σ) (a : Int32) : OK (f_L_state σ a) (fun τ => f_X4_state τ a) := by
  rcases t_cases h a with hd | ⟨i, hi, hi8, rfl, hg, hf, hA, hB, hW, hG, hC⟩
  · exact OK.dead h (X_state h hd) (M_state h.n8 h.c7 hd)
  · have hch : ((σ.1 1 i 4).toUInt32 % 65536).toInt32 = σ.1 1 i 4 := by
      rcases hB.2.2.2.2.1 with e | e | e <;> rw [e] <;> decide
    refine OK.get h (v := σ.1 1 i 4) ?_ ?_
    · unfold f_L_state f_X3_state f_X3_state_0
      rw [t_live σ hi8 hf]
      simp only [bx_r]
      rw [if_pos hch]; rfl
    · unfold f_X4_state f_X4_state_0
      rw [m_no _ h.n8 h.c7 hi hg]
      simp only [Option.bind_some, if_true, h8 hi8, if_false, cl8 (show i < 480 by omega)]
      simp only [t8, svo_1, hA.2.2.2.2.1, hch, if_true]
/-- an answer behind a change of tool i alone -/
theorem OK.mut {σ : Sg} {n m i : Nat} (h : RN n m σ) (hi : i < n) {L : Option (Int32 × Sg)} {M : Sg → Option (Int32 × Sg)} {τ τ2 : Sg} {v : Int32} (hL : L = some (0, τ)) (hM : M τ = some (v, τ2)) (h0 : τ2.1 7 0 0 = 0) (ho : τ2.2.2.1 = v.toInt64) (hz : τ2.2.1 = σ.2.1) (hl : Lc i σ τ2) (hT : RT τ2 i) : OK L M :=
  OK.yes hL hM h0 ho (h.loc hi hl hz hT)
theorem RC.mv {σ τ : Sg} {i : Nat} (h : RC σ i) (h0 : τ.1 1 i 0 = σ.1 1 i 0) (h2 : τ.1 2 i = σ.1 2 i) (h3 : τ.1 3 i = σ.1 3 i) (h4 : τ.1 4 i = σ.1 4 i) (h5 : τ.1 5 i = σ.1 5 i) (h6 : τ.1 8 3 i = σ.1 8 3 i) (h7 : τ.1 8 8 i = σ.1 8 8 i) (h8 : τ.1 8 20 = σ.1 8 20) (h9 : τ.1 8 21 = σ.1 8 21) : RC τ i := by
  obtain ⟨c, hc, hC1, hC2, hC3, hC4⟩ := h
  refine ⟨c, hc, ?_, ?_, ?_, fun k hk => ?_⟩
  · rw [h2]; exact hC1
  · rw [h2]; exact hC2
  · rw [h0, h2, h6, h7]; exact hC3
  · have h := hC4 k hk
    unfold RK at h ⊢
    rw [h2, h3, h4, h5, h8, h9]
    exact h
theorem f1 {σ : Sg} {k i p : Nat} {v : Int32} {k' i' : Nat} (h : ¬ (k' = k ∧ i' = i)) : (sv σ k i p v).1 k' i' = σ.1 k' i' := sv_ne _ _ _ h
theorem OK_set {σ : Sg} {n m : Nat} (h : RN n m σ) (a b : Int32) : OK (f_L_set σ a b) (fun τ => f_X4_set τ a b) := by
  rcases t_cases h a with hd | ⟨i, hi, hi8, rfl, hg, hf, hA, hB, hW, hG, hC⟩
  · exact OK.dead h (X_set h hd _) (M_set h.n8 h.c7 hd _)
  have hm := m_none σ h.n8 h.c7 hi hg
  have hn := cl8 (show i < 480 by omega)
  have hA' := hA
  obtain ⟨a2, a5, a7, a6, a4, a9, a10, a11, a13, a14, a15, a16, a17⟩ := hA'
  by_cases h1 : b < 0 ∨ 9 < b
  · refine OK.no h 2 ((Lq.rf σ).t 0) (τ := σ) (b := 0) ?_ ?_ (by decide)
    · unfold f_L_set f_X3_set f_X3_set_0
      simp only [t_live σ hi8 hf, bx_r, bx_l, c_in, if_pos h1]; rfl
    · simp only [f_X4_set, f_X4_set_0, f_X4_set_61, hm, Option.bind_some, if_true, m_bt, if_pos h1, w_2, if_neg one_ne]
  by_cases h2 : σ.1 1 i 0 = 115
  case neg =>
    refine OK.no h 3 ((Lq.rf σ).t 0) (τ := σ) (b := 0) ?_ ?_ (by decide)
    · unfold f_L_set f_X3_set f_X3_set_0
      simp only [t_live σ hi8 hf, bx_r, bx_l, c_in, if_neg h1, if_neg h2]; rfl
    · simp only [f_X4_set, f_X4_set_0, f_X4_set_61, f_X4_set_56, hm, Option.bind_some, if_true, m_bt, if_neg h1, w_3, if_neg one_ne, hn, h8 hi8, if_false, t8, a2, if_neg h2]
  by_cases h3 : σ.1 2 i 3 = 0
  · refine OK.no h 3 ((Lq.rf σ).t 0) (τ := σ) (b := 0) ?_ ?_ (by decide)
    · unfold f_L_set f_X3_set f_X3_set_0
      simp only [t_live σ hi8 hf, bx_r, bx_l, c_in, if_neg h1, if_pos h2, if_pos h3]; rfl
    · simp only [f_X4_set, f_X4_set_0, f_X4_set_61, f_X4_set_56, hm, Option.bind_some, if_true, m_bt, if_neg h1, w_3, if_neg one_ne, hn, h8 hi8, if_false, t8, a2, if_pos h2, a16, if_pos h3]
  by_cases h4 : σ.1 1 i 4 = 99
  · refine OK.no h 3 ((Lq.rf σ).t 0) (τ := σ) (b := 0) ?_ ?_ (by decide)
    · unfold f_L_set f_X3_set f_X3_set_0
      simp only [t_live σ hi8 hf, bx_r, bx_l, c_in, if_neg h1, if_pos h2, if_neg h3, if_pos h4]; rfl
    · simp only [f_X4_set, f_X4_set_0, f_X4_set_61, f_X4_set_56, hm, Option.bind_some, if_true, m_bt, if_neg h1, w_3, if_neg one_ne, hn, h8 hi8, if_false, t8, a2, if_pos h2, a16, if_neg h3, a4, if_pos h4]
  refine OK.mut h hi (τ := svo (sv (sv σ 1 i 6 b) 1 i 9 0) (σ.1 1 i 6).toInt64) (v := σ.1 1 i 6) (τ2 := sv (sv (sv (sv (svo (sv (sv σ 1 i 6 b) 1 i 9 0) (σ.1 1 i 6).toInt64) 7 0 0 0) 7 0 0 0) 8 9 i b) 8 18 i 0) ?_ ?_ rfl rfl rfl ?_ ?_
  · unfold f_L_set f_X3_set f_X3_set_0
    simp only [t_live σ hi8 hf, bx_r, bx_l, c_in, if_neg h1, if_pos h2, if_neg h3, if_neg h4]; rfl
  · have hm := m_none (svo (sv (sv σ 1 i 6 b) 1 i 9 0) (σ.1 1 i 6).toInt64) h.n8 h.c7 hi hg
    simp only [f_X4_set, f_X4_set_0, f_X4_set_61, f_X4_set_56, hm, Option.bind_some, if_true, m_bt, if_neg h1, w_0, if_neg one_ne, hn, h8 hi8, if_false, t8, svo_1, vb0]
    simp [sv_rd, a2, h2, a16, h3, a4, h4, a9]
  · exact ((((((((Lc.rf i σ).sv _ _ _ _ (by unfold own; omega)).sv _ _ _ _ (by unfold own; omega)).o _).sv _ _ _ _ (by unfold own; omega)).sv _ _ _ _ (by unfold own; omega)).sv _ _ _ _ (by unfold own; omega)).sv _ _ _ _ (by unfold own; omega))
  · refine ⟨?_, ?_, ?_, ?_, hC.mv (by simp [sv_rd, svo_1]) rfl rfl rfl rfl (by simp [sv_rd, svo_1]) (by simp [sv_rd, svo_1]) rfl rfl⟩
    · unfold RA at hA ⊢
      simp [sv_rd, svo_1, a2, a5, a7, a6, a4, a9, a10, a11, a13, a14, a15, a16, a17]
    · unfold RB at hB ⊢
      simp [sv_rd, svo_1]
      grind
    · unfold RW
      simp [sv_rd, svo_1]
    · unfold RG at hG ⊢
      simp [sv_rd, svo_1]
      exact hG
theorem max_eq (x y : Int32) : (if x ≤ y then y else x) = (if x < y then y else x) := by
  by_cases h1 : x < y
  · rw [if_pos h1, if_pos (by grind)]
  · rw [if_neg h1]
    by_cases h2 : x ≤ y
    · rw [if_pos h2]; grind
    · rw [if_neg h2]
theorem d25 : ((25 : Int32) = 0) = False := by decide
theorem d2 : ((2 : Int32) = 0) = False := by decide
theorem d20 : ((20 : Int32) = 0) = False := by decide
theorem d5 : ((5 : Int32) = 0) = False := by decide
theorem d10 : ((10 : Int32) = 0) = False := by decide
theorem d100 : ((100 : Int32) = 0) = False := by decide
theorem d3 : ((3 : Int32) = 0) = False := by decide
theorem div25 {b : Int32} (h : ¬ (b < 100 ∨ 400 < b)) : 4 ≤ b / 25 ∧ b / 25 ≤ 16 := by
  obtain ⟨k, hk, rfl⟩ := nI_of (show ¬ b < 0 by grind)
  have h1 : ¬ nI k < nI 100 := fun q => h (Or.inl q)
  have h2 : ¬ nI 400 < nI k := fun q => h (Or.inr q)
  rw [nI_ltI hk (by decide)] at h1
  rw [nI_ltI (by decide) hk] at h2
  rw [show (25 : Int32) = nI 25 by decide, pk_div hk (by decide) (by decide)]
  exact ⟨nI_le (a := 4) (by omega) (by omega), nI_le (b := 16) (by omega) (by omega)⟩
theorem OK_temper {σ : Sg} {n m : Nat} (h : RN n m σ) (a : Int32) (b : Int32) : OK (f_L_temper σ a b) (fun τ => f_X4_temper τ a b) := by
  rcases t_cases h a with hd | ⟨i, hi, hi8, rfl, hg, hf, hA, hB, hW, hG, hC⟩
  · exact OK.dead h (X_temper h hd _) (M_temper h.n8 h.c7 hd _)
  have hm := m_none σ h.n8 h.c7 hi hg
  have hn := cl8 (show i < 480 by omega)
  have hA' := hA
  obtain ⟨a2, a5, a7, a6, a4, a9, a10, a11, a13, a14, a15, a16, a17⟩ := hA'
  by_cases q0 : b < 100 ∨ 400 < b
  · skip
    refine OK.no h 2 ((Lq.rf σ).t 0) (τ := σ) (b := 0) ?_ ?_ (by decide)
    · unfold f_L_temper f_X3_temper f_X3_temper_0
      simp only [t_live σ hi8 hf, bx_r, bx_l, c_in, c_cut, c_bath, c_hard, d25, if_pos q0]; rfl
    · simp only [f_X4_temper, f_X4_temper_0, f_X4_temper_41, hm, Option.bind_some, if_true, m_bt, m_cut, w_2, w_3, if_neg one_ne, hn, h8 hi8, if_false, t8, m_most, max_eq, if_pos q0]
  by_cases q1 : σ.1 1 i 4 = 104
  case neg =>
    refine OK.no h 3 ((Lq.rf σ).t 0) (τ := σ) (b := 0) ?_ ?_ (by decide)
    · unfold f_L_temper f_X3_temper f_X3_temper_0
      simp only [t_live σ hi8 hf, bx_r, bx_l, c_in, c_cut, c_bath, c_hard, d25, if_neg q0, if_neg q1]; rfl
    · simp only [f_X4_temper, f_X4_temper_0, f_X4_temper_41, hm, Option.bind_some, if_true, m_bt, m_cut, w_2, w_3, if_neg one_ne, hn, h8 hi8, if_false, t8, a4, m_most, max_eq, if_neg q0, if_neg q1]
  refine OK.mut h hi (τ := svo (sv (sv σ 1 i 7 (if (1 : Int32) < σ.1 1 i 7 - b / 25 then σ.1 1 i 7 - b / 25 else 1)) 1 i 9 2) ((if (1 : Int32) < σ.1 1 i 7 - b / 25 then σ.1 1 i 7 - b / 25 else 1)).toInt64) (v := (if (1 : Int32) < σ.1 1 i 7 - b / 25 then σ.1 1 i 7 - b / 25 else 1)) (τ2 := sv (sv (sv (sv (sv (svo (sv (sv σ 1 i 7 (if (1 : Int32) < σ.1 1 i 7 - b / 25 then σ.1 1 i 7 - b / 25 else 1)) 1 i 9 2) ((if (1 : Int32) < σ.1 1 i 7 - b / 25 then σ.1 1 i 7 - b / 25 else 1)).toInt64) 7 0 0 0) 7 0 0 0) 8 10 i (if (1 : Int32) < σ.1 1 i 7 - b / 25 then σ.1 1 i 7 - b / 25 else 1)) 8 18 i 1) 8 12 i 0) ?_ ?_ rfl rfl rfl ?_ ?_
  · unfold f_L_temper f_X3_temper f_X3_temper_0
    simp only [t_live σ hi8 hf, bx_r, bx_l, c_in, c_cut, c_bath, c_hard, d25, if_neg q0, if_pos q1]; simp [sv_rd, bx_r]
  · have hm := m_none (svo (sv (sv σ 1 i 7 (if (1 : Int32) < σ.1 1 i 7 - b / 25 then σ.1 1 i 7 - b / 25 else 1)) 1 i 9 2) ((if (1 : Int32) < σ.1 1 i 7 - b / 25 then σ.1 1 i 7 - b / 25 else 1)).toInt64) h.n8 h.c7 hi hg
    simp only [f_X4_temper, f_X4_temper_0, f_X4_temper_41, hm, Option.bind_some, if_true, m_bt, m_cut, w_0, if_neg one_ne, hn, h8 hi8, if_false, t8, svo_1, vb0, vb1, vc115, vc104, vc99, m_most, max_eq]
    simp [sv_rd, a2, a5, a7, a6, a4, a9, a10, a11, a13, a14, a15, a16, a17, q0, q1, m_most, max_eq]
  · exact (((((((((Lc.rf i σ).sv _ _ _ _ (by unfold own; omega)).sv _ _ _ _ (by unfold own; omega)).o _).sv _ _ _ _ (by unfold own; omega)).sv _ _ _ _ (by unfold own; omega)).sv _ _ _ _ (by unfold own; omega)).sv _ _ _ _ (by unfold own; omega)).sv _ _ _ _ (by unfold own; omega))
  · refine ⟨?_, ?_, ?_, ?_, hC.mv (by simp [sv_rd, svo_1]) rfl rfl rfl rfl (by simp [sv_rd, svo_1]) (by simp [sv_rd, svo_1]) rfl rfl⟩
    · unfold RA at hA ⊢
      simp [sv_rd, svo_1, a2, a5, a7, a6, a4, a9, a10, a11, a13, a14, a15, a16, a17]
    · unfold RB at hB ⊢
      simp [sv_rd, svo_1]
      have := div25 q0
      grind
    · unfold RW at hW ⊢
      simp [sv_rd, svo_1]
    · unfold RG at hG ⊢
      simp [sv_rd, svo_1]
      exact hG
theorem OK_brush {σ : Sg} {n m : Nat} (h : RN n m σ) (a : Int32) : OK (f_L_brush σ a) (fun τ => f_X4_brush τ a) := by
  rcases t_cases h a with hd | ⟨i, hi, hi8, rfl, hg, hf, hA, hB, hW, hG, hC⟩
  · exact OK.dead h (X_brush h hd) (M_brush h.n8 h.c7 hd)
  have hm := m_none σ h.n8 h.c7 hi hg
  have hn := cl8 (show i < 480 by omega)
  have hA' := hA
  obtain ⟨a2, a5, a7, a6, a4, a9, a10, a11, a13, a14, a15, a16, a17⟩ := hA'
  refine OK.mut h hi (τ := svo (sv (sv σ 1 i 10 0) 1 i 9 0) (σ.1 1 i 10).toInt64) (v := σ.1 1 i 10) (τ2 := sv (sv (sv (svo (sv (sv σ 1 i 10 0) 1 i 9 0) (σ.1 1 i 10).toInt64) 7 0 0 0) 8 13 i 0) 8 18 i 0) ?_ ?_ rfl rfl rfl ?_ ?_
  · unfold f_L_brush f_X3_brush f_X3_brush_0
    simp only [t_live σ hi8 hf, bx_r, bx_l, c_in, c_cut, c_bath, c_hard]; rfl
  · have hm := m_none (svo (sv (sv σ 1 i 10 0) 1 i 9 0) (σ.1 1 i 10).toInt64) h.n8 h.c7 hi hg
    simp only [f_X4_brush, f_X4_brush_0, hm, Option.bind_some, if_true, m_bt, m_cut, w_0, if_neg one_ne, hn, h8 hi8, if_false, t8, svo_1, vb0, vb1, vc115, vc104, vc99]
    simp [sv_rd, a2, a5, a7, a6, a4, a9, a10, a11, a13, a14, a15, a16, a17]
  · exact (((((((Lc.rf i σ).sv _ _ _ _ (by unfold own; omega)).sv _ _ _ _ (by unfold own; omega)).o _).sv _ _ _ _ (by unfold own; omega)).sv _ _ _ _ (by unfold own; omega)).sv _ _ _ _ (by unfold own; omega))
  · refine ⟨?_, ?_, ?_, ?_, hC.mv (by simp [sv_rd, svo_1]) rfl rfl rfl rfl (by simp [sv_rd, svo_1]) (by simp [sv_rd, svo_1]) rfl rfl⟩
    · unfold RA at hA ⊢
      simp [sv_rd, svo_1, a2, a5, a7, a6, a4, a9, a10, a11, a13, a14, a15, a16, a17]
    · unfold RB at hB ⊢
      simp [sv_rd, svo_1]
      grind
    · unfold RW at hW ⊢
      simp [sv_rd, svo_1]
    · unfold RG at hG ⊢
      simp [sv_rd, svo_1]
      exact hG
theorem OK_soften {σ : Sg} {n m : Nat} (h : RN n m σ) (a : Int32) : OK (f_L_soften σ a) (fun τ => f_X4_soften τ a) := by
  rcases t_cases h a with hd | ⟨i, hi, hi8, rfl, hg, hf, hA, hB, hW, hG, hC⟩
  · exact OK.dead h (X_soften h hd) (M_soften h.n8 h.c7 hd)
  have hm := m_none σ h.n8 h.c7 hi hg
  have hn := cl8 (show i < 480 by omega)
  have hA' := hA
  obtain ⟨a2, a5, a7, a6, a4, a9, a10, a11, a13, a14, a15, a16, a17⟩ := hA'
  by_cases q0 : σ.1 1 i 4 = 104
  case neg =>
    refine OK.no h 2 ((Lq.rf σ).t 0) (τ := σ) (b := 0) ?_ ?_ (by decide)
    · unfold f_L_soften f_X3_soften f_X3_soften_0
      simp only [t_live σ hi8 hf, bx_r, bx_l, c_in, c_cut, c_bath, c_hard, if_neg q0]; rfl
    · simp only [f_X4_soften, f_X4_soften_0, f_X4_soften_25, hm, Option.bind_some, if_true, m_bt, m_cut, w_2, w_3, if_neg one_ne, hn, h8 hi8, if_false, t8, a4, if_neg q0]
  refine OK.mut h hi (τ := svo (sv (sv (sv σ 1 i 4 115) 1 i 7 0) 1 i 9 0) (σ.1 1 i 7).toInt64) (v := σ.1 1 i 7) (τ2 := sv (sv (sv (sv (sv (svo (sv (sv (sv σ 1 i 4 115) 1 i 7 0) 1 i 9 0) (σ.1 1 i 7).toInt64) 7 0 0 0) 7 0 0 0) 8 10 i 0) 8 4 i 115) 8 18 i 0) ?_ ?_ rfl rfl rfl ?_ ?_
  · unfold f_L_soften f_X3_soften f_X3_soften_0
    simp only [t_live σ hi8 hf, bx_r, bx_l, c_in, c_cut, c_bath, c_hard, if_pos q0]; rfl
  · have hm := m_none (svo (sv (sv (sv σ 1 i 4 115) 1 i 7 0) 1 i 9 0) (σ.1 1 i 7).toInt64) h.n8 h.c7 hi hg
    simp only [f_X4_soften, f_X4_soften_0, f_X4_soften_25, hm, Option.bind_some, if_true, m_bt, m_cut, w_0, if_neg one_ne, hn, h8 hi8, if_false, t8, svo_1, vb0, vb1, vc115, vc104, vc99]
    simp [sv_rd, a2, a5, a7, a6, a4, a9, a10, a11, a13, a14, a15, a16, a17, q0]
  · exact ((((((((((Lc.rf i σ).sv _ _ _ _ (by unfold own; omega)).sv _ _ _ _ (by unfold own; omega)).sv _ _ _ _ (by unfold own; omega)).o _).sv _ _ _ _ (by unfold own; omega)).sv _ _ _ _ (by unfold own; omega)).sv _ _ _ _ (by unfold own; omega)).sv _ _ _ _ (by unfold own; omega)).sv _ _ _ _ (by unfold own; omega))
  · refine ⟨?_, ?_, ?_, ?_, hC.mv (by simp [sv_rd, svo_1]) rfl rfl rfl rfl (by simp [sv_rd, svo_1]) (by simp [sv_rd, svo_1]) rfl rfl⟩
    · unfold RA at hA ⊢
      simp [sv_rd, svo_1, a2, a5, a7, a6, a4, a9, a10, a11, a13, a14, a15, a16, a17]
    · unfold RB at hB ⊢
      simp [sv_rd, svo_1]
      grind
    · unfold RW at hW ⊢
      simp [sv_rd, svo_1]
    · unfold RG at hG ⊢
      simp [sv_rd, svo_1]
      exact hG
/-- what the reference's holds needs of the state -/
def RH (τ : Sg) (i : Nat) : Prop := τ.1 8 16 i = τ.1 2 i 3 ∧ τ.1 8 2 i = τ.1 1 i 0 ∧ τ.1 8 9 i = τ.1 1 i 6 ∧ (¬ τ.1 1 i 0 = 115 → τ.1 1 i 6 = 0) ∧ (¬ τ.1 2 i 3 = 0 → depthF (τ.1 8 3 i) (τ.1 8 2 i) = τ.1 2 i 1)
theorem RC.dep {σ : Sg} {i : Nat} (hA : RA σ i) (hC : RC σ i) (h0 : ¬ σ.1 2 i 3 = 0) : depthF (σ.1 8 3 i) (σ.1 8 2 i) = σ.1 2 i 1 := by
  obtain ⟨c, hc, hC1, hC2, hC3, hC4⟩ := hC
  have hc0 : 0 < c := Nat.pos_of_ne_zero (fun q => by rw [q] at hC1; exact h0 hC1)
  obtain ⟨e1, -, e2, -⟩ := hC3 hc0
  rw [e1, hA.1, e2]
theorem RT.holds {σ : Sg} {i : Nat} (h : RT σ i) : RH σ i := ⟨h.1.2.2.2.2.2.2.2.2.2.2.2.1, h.1.1, h.1.2.2.2.2.2.1, h.2.1.2.2.2.2.2.2.1, RC.dep h.1 h.2.2.2.2⟩
theorem m_holds (τ : Sg) {i : Nat} (hi : i < 8) (h : RH τ i) : f_X4_holds τ (nI i) = some ((τ.1 2 i 1 + τ.1 1 i 6) * τ.1 2 i 3, τ) := by
  obtain ⟨h1, h2, h3, h4, h5⟩ := h
  have hn := cl8 (show i < 480 by omega)
  unfold f_X4_holds f_X4_holds_0 f_X4_holds_39
  simp only [hn, h8 hi, if_false, h1, h2, h3, m_depth τ hi, Option.bind_some]
  by_cases h0 : τ.1 2 i 3 = 0
  · rw [if_pos h0, h0, Int32.mul_zero]
  · rw [if_neg h0, h2.symm, h5 h0]
    by_cases hs : τ.1 8 2 i = 115
    · rw [if_pos hs]
    · rw [if_neg hs, h4 (by rw [← h2]; exact hs)]
theorem OK_straighten {σ : Sg} {n m : Nat} (h : RN n m σ) (a : Int32) (b : Int32) : OK (f_L_straighten σ a b) (fun τ => f_X4_straighten τ a b) := by
  rcases t_cases h a with hd | ⟨i, hi, hi8, rfl, hg, hf, hA, hB, hW, hG, hC⟩
  · exact OK.dead h (X_straighten h hd _) (M_straighten h.n8 h.c7 hd _)
  have hm := m_none σ h.n8 h.c7 hi hg
  have hn := cl8 (show i < 480 by omega)
  have hA' := hA
  obtain ⟨a2, a5, a7, a6, a4, a9, a10, a11, a13, a14, a15, a16, a17⟩ := hA'
  by_cases q0 : b < 1 ∨ 6 < b
  · skip
    refine OK.no h 2 ((Lq.rf σ).t 0) (τ := σ) (b := 0) ?_ ?_ (by decide)
    · unfold f_L_straighten f_X3_straighten f_X3_straighten_0
      simp only [t_live σ hi8 hf, bx_r, bx_l, c_in, c_cut, c_bath, c_hard, if_pos q0]; rfl
    · simp only [f_X4_straighten, f_X4_straighten_0, f_X4_straighten_47, f_X4_straighten_42, hm, Option.bind_some, if_true, m_bt, m_cut, w_2, w_3, if_neg one_ne, hn, h8 hi8, if_false, t8, if_pos q0]
  by_cases hw9 : σ.1 1 i 9 = 0
  · refine OK.no h 3 ((Lq.rf σ).t 0) (τ := σ) (b := 0) ?_ ?_ (by decide)
    · unfold f_L_straighten f_X3_straighten f_X3_straighten_0
      simp only [t_live σ hi8 hf, bx_r, bx_l, c_in, if_neg q0, if_pos hw9]; rfl
    · rcases hW with ⟨w1, w2⟩ | ⟨w1, ⟨w2, w3⟩ | ⟨w2, w3⟩ | ⟨w2, w3⟩⟩
      · simp [f_X4_straighten, f_X4_straighten_0, f_X4_straighten_47, f_X4_straighten_42, hm, m_bt, w_3, hn, h8 hi8, t8, if_neg q0, w1, one_ne]
      · rw [w3] at hw9; exact absurd hw9 (by decide)
      · rw [w3] at hw9; exact absurd hw9 (by decide)
      · simp [f_X4_straighten, f_X4_straighten_0, f_X4_straighten_47, f_X4_straighten_42, hm, m_bt, w_3, hn, h8 hi8, t8, if_neg q0, w1, w2, one_ne]
  have hw1 : σ.1 8 18 i = 1 := by
    rcases hW with ⟨w1, w2⟩ | ⟨w1, w2⟩
    · exact absurd w2 hw9
    · exact w1
  have hw2 : (σ.1 8 12 i = 2) = False := by
    rcases hW with ⟨w1, w2⟩ | ⟨w1, ⟨w2, w3⟩ | ⟨w2, w3⟩ | ⟨w2, w3⟩⟩
    · exact absurd w2 hw9
    · rw [w2]; decide
    · rw [w2]; decide
    · exact absurd w3 hw9
  refine OK.mut h hi (τ := svo (sv (sv σ 1 i 9 (σ.1 1 i 9 - 1)) 1 i 8 (if (0 : Int32) < σ.1 1 i 8 - b then σ.1 1 i 8 - b else 0)) ((if (0 : Int32) < σ.1 1 i 8 - b then σ.1 1 i 8 - b else 0)).toInt64) (v := (if (0 : Int32) < σ.1 1 i 8 - b then σ.1 1 i 8 - b else 0)) (τ2 := sv (sv (sv (sv (svo (sv (sv σ 1 i 9 (σ.1 1 i 9 - 1)) 1 i 8 (if (0 : Int32) < σ.1 1 i 8 - b then σ.1 1 i 8 - b else 0)) ((if (0 : Int32) < σ.1 1 i 8 - b then σ.1 1 i 8 - b else 0)).toInt64) 7 0 0 0) 7 0 0 0) 8 11 i (if (0 : Int32) < σ.1 1 i 8 - b then σ.1 1 i 8 - b else 0)) 8 12 i (σ.1 8 12 i + 1)) ?_ ?_ rfl rfl rfl ?_ ?_
  · unfold f_L_straighten f_X3_straighten f_X3_straighten_0
    simp only [t_live σ hi8 hf, bx_r, bx_l, c_in, c_cut, c_bath, c_hard, hw9, if_neg q0]; simp [sv_rd, bx_r]
  · have hm := m_none (svo (sv (sv σ 1 i 9 (σ.1 1 i 9 - 1)) 1 i 8 (if (0 : Int32) < σ.1 1 i 8 - b then σ.1 1 i 8 - b else 0)) ((if (0 : Int32) < σ.1 1 i 8 - b then σ.1 1 i 8 - b else 0)).toInt64) h.n8 h.c7 hi hg
    simp only [f_X4_straighten, f_X4_straighten_0, f_X4_straighten_47, f_X4_straighten_42, hm, Option.bind_some, if_true, m_bt, m_cut, w_0, if_neg one_ne, hn, h8 hi8, if_false, t8, svo_1, vb0, vb1, vc115, vc104, vc99, m_most, max_eq, hw1, hw2]
    simp [sv_rd, a2, a5, a7, a6, a4, a9, a10, a11, a13, a14, a15, a16, a17, q0, m_most, max_eq, hw1, hw2]
  · exact ((((((((Lc.rf i σ).sv _ _ _ _ (by unfold own; omega)).sv _ _ _ _ (by unfold own; omega)).o _).sv _ _ _ _ (by unfold own; omega)).sv _ _ _ _ (by unfold own; omega)).sv _ _ _ _ (by unfold own; omega)).sv _ _ _ _ (by unfold own; omega))
  · refine ⟨?_, ?_, ?_, ?_, hC.mv (by simp [sv_rd, svo_1]) rfl rfl rfl rfl (by simp [sv_rd, svo_1]) (by simp [sv_rd, svo_1]) rfl rfl⟩
    · unfold RA at hA ⊢
      simp [sv_rd, svo_1, a2, a5, a7, a6, a4, a9, a10, a11, a13, a14, a15, a16, a17]
    · unfold RB at hB ⊢
      simp [sv_rd, svo_1]
      grind
    · unfold RW at hW ⊢
      simp [sv_rd, svo_1]
      rcases hW with ⟨w1, w2⟩ | ⟨w1, ⟨w2, w3⟩ | ⟨w2, w3⟩ | ⟨w2, w3⟩⟩ <;> simp_all
    · unfold RG at hG ⊢
      simp [sv_rd, svo_1]
      exact hG
theorem depthF_r (c s : Int32) : 3 ≤ depthF c s ∧ depthF c s ≤ 9 := by
  unfold depthF
  split <;> split <;> first | decide | (split <;> decide)
theorem OK_gullets {σ : Sg} {n m : Nat} (h : RN n m σ) (a : Int32) : OK (f_L_gullets σ a) (fun τ => f_X4_gullets τ a) := by
  rcases t_cases h a with hd | ⟨i, hi, hi8, rfl, hg, hf, hA, hB, hW, hG, hC⟩
  · exact OK.dead h (X_gullets h hd) (M_gullets h.n8 h.c7 hd)
  · refine OK.get h (v := (σ.1 2 i 1 + σ.1 1 i 6) * σ.1 2 i 3) ?_ ?_
    · unfold f_L_gullets f_X3_gullets f_X3_gullets_0
      rw [t_live σ hi8 hf]; rfl
    · unfold f_X4_gullets f_X4_gullets_0
      rw [m_no _ h.n8 h.c7 hi hg]
      simp only [Option.bind_some, if_true]
      rw [m_holds _ hi8 (show RH (sv (svo σ _) 7 0 0 0) i from RT.holds ⟨hA, hB, hW, hG, hC⟩)]
      rfl
theorem OK_grind {σ : Sg} {n m : Nat} (h : RN n m σ) (a : Int32) : OK (f_L_grind σ a) (fun τ => f_X4_grind τ a) := by
  rcases t_cases h a with hd | ⟨i, hi, hi8, rfl, hg, hf, hA, hB, hW, hG, hC⟩
  · exact OK.dead h (X_grind h hd) (M_grind h.n8 h.c7 hd)
  have hm := m_none σ h.n8 h.c7 hi hg
  have hn := cl8 (show i < 480 by omega)
  have hA' := hA
  obtain ⟨a2, a5, a7, a6, a4, a9, a10, a11, a13, a14, a15, a16, a17⟩ := hA'
  by_cases q0 : σ.1 1 i 4 = 115
  case neg =>
    refine OK.no h 2 ((Lq.rf σ).t 0) (τ := σ) (b := 0) ?_ ?_ (by decide)
    · unfold f_L_grind f_X3_grind f_X3_grind_0
      simp only [t_live σ hi8 hf, bx_r, bx_l, c_in, c_cut, c_bath, c_hard, f_X2_groundThickness, f_X2_groundThickness_0, f_X2_takeTeethOff, f_X2_takeTeethOff_0, f_X1_clear, f_X1_clear_0, Option.bind_some, if_neg q0]; rfl
    · simp only [f_X4_grind, f_X4_grind_0, f_X4_grind_53, f_X4_grind_48, hm, Option.bind_some, if_true, m_bt, m_cut, w_2, w_3, if_neg one_ne, hn, h8 hi8, if_false, t8, a4, (fun τ => m_depth τ hi8), if_neg q0]
  by_cases q1 : σ.1 2 i 3 = 0
  · skip
    refine OK.no h 2 ((Lq.rf σ).t 0) (τ := σ) (b := 0) ?_ ?_ (by decide)
    · unfold f_L_grind f_X3_grind f_X3_grind_0
      simp only [t_live σ hi8 hf, bx_r, bx_l, c_in, c_cut, c_bath, c_hard, f_X2_groundThickness, f_X2_groundThickness_0, f_X2_takeTeethOff, f_X2_takeTeethOff_0, f_X1_clear, f_X1_clear_0, Option.bind_some, if_pos q0, if_pos q1]; rfl
    · simp only [f_X4_grind, f_X4_grind_0, f_X4_grind_53, f_X4_grind_48, hm, Option.bind_some, if_true, m_bt, m_cut, w_2, w_3, if_neg one_ne, hn, h8 hi8, if_false, t8, a4, a16, (fun τ => m_depth τ hi8), if_pos q0, if_pos q1]
  have dep := RC.dep hA hC q1
  have gteq : σ.1 1 i 3 - (2 + σ.1 2 i 1) = σ.1 1 i 3 - 2 - σ.1 2 i 1 := by grind
  have dep2 : depthF (σ.1 8 3 i) (σ.1 1 i 0) = σ.1 2 i 1 := by rw [← a2]; exact dep
  by_cases q2 : 20 ≤ (σ.1 1 i 3 - 2 - σ.1 2 i 1)
  case neg =>
    refine OK.no h 2 ((Lq.rf σ).t 0) (τ := σ) (b := 0) ?_ ?_ (by decide)
    · unfold f_L_grind f_X3_grind f_X3_grind_0
      simp only [t_live σ hi8 hf, bx_r, bx_l, c_in, c_cut, c_bath, c_hard, f_X2_groundThickness, f_X2_groundThickness_0, f_X2_takeTeethOff, f_X2_takeTeethOff_0, f_X1_clear, f_X1_clear_0, Option.bind_some, if_pos q0, if_neg q1, if_neg q2]; rfl
    · simp only [f_X4_grind, f_X4_grind_0, f_X4_grind_53, f_X4_grind_48, hm, Option.bind_some, if_true, m_bt, m_cut, w_2, w_3, if_neg one_ne, hn, h8 hi8, if_false, t8, a4, a16, a6, dep, Option.bind_some, (fun τ => m_depth τ hi8), if_pos q0, if_neg q1, if_neg q2]
  refine OK.mut h hi (τ := svo (sv (sv (sv (sv (sv (sv (sv σ 1 i 3 (σ.1 1 i 3 - 2 - σ.1 2 i 1)) 2 i 1 0) 2 i 3 0) 2 i 4 0) 1 i 6 0) 1 i 10 0) 1 i 13 (σ.1 1 i 13 + 1)) ((σ.1 1 i 3 - 2 - σ.1 2 i 1)).toInt64) (v := (σ.1 1 i 3 - 2 - σ.1 2 i 1)) (τ2 := sv (sv (sv (sv (sv (sv (sv (sv (svo (sv (sv (sv (sv (sv (sv (sv σ 1 i 3 (σ.1 1 i 3 - 2 - σ.1 2 i 1)) 2 i 1 0) 2 i 3 0) 2 i 4 0) 1 i 6 0) 1 i 10 0) 1 i 13 (σ.1 1 i 13 + 1)) ((σ.1 1 i 3 - 2 - σ.1 2 i 1)).toInt64) 7 0 0 0) 7 0 0 0) 8 6 i (σ.1 1 i 3 - 2 - σ.1 2 i 1)) 8 16 i 0) 8 17 i 0) 8 9 i 0) 8 13 i 0) 8 15 i (σ.1 8 15 i + 1)) ?_ ?_ rfl rfl rfl ?_ ?_
  · unfold f_L_grind f_X3_grind f_X3_grind_0
    simp only [t_live σ hi8 hf, bx_r, bx_l, c_in, c_cut, c_bath, c_hard, f_X2_groundThickness, f_X2_groundThickness_0, f_X2_takeTeethOff, f_X2_takeTeethOff_0, f_X1_clear, f_X1_clear_0, Option.bind_some, if_pos q0, if_neg q1, if_pos q2]; simp [sv_rd, bx_r]
  · have hm := m_none (svo (sv (sv (sv (sv (sv (sv (sv σ 1 i 3 (σ.1 1 i 3 - 2 - σ.1 2 i 1)) 2 i 1 0) 2 i 3 0) 2 i 4 0) 1 i 6 0) 1 i 10 0) 1 i 13 (σ.1 1 i 13 + 1)) ((σ.1 1 i 3 - 2 - σ.1 2 i 1)).toInt64) h.n8 h.c7 hi hg
    simp only [f_X4_grind, f_X4_grind_0, f_X4_grind_53, f_X4_grind_48, hm, Option.bind_some, if_true, m_bt, m_cut, w_0, if_neg one_ne, hn, h8 hi8, if_false, t8, svo_1, vb0, vb1, vc115, vc104, vc99, (fun τ => m_depth τ hi8)]
    simp [sv_rd, a2, a5, a7, a6, a4, a9, a10, a11, a13, a14, a15, a16, a17, q0, q1, dep2, gteq, q2, (fun τ => m_depth τ hi8)]
  · exact (((((((((((((((((Lc.rf i σ).sv _ _ _ _ (by unfold own; omega)).sv _ _ _ _ (by unfold own; omega)).sv _ _ _ _ (by unfold own; omega)).sv _ _ _ _ (by unfold own; omega)).sv _ _ _ _ (by unfold own; omega)).sv _ _ _ _ (by unfold own; omega)).sv _ _ _ _ (by unfold own; omega)).o _).sv _ _ _ _ (by unfold own; omega)).sv _ _ _ _ (by unfold own; omega)).sv _ _ _ _ (by unfold own; omega)).sv _ _ _ _ (by unfold own; omega)).sv _ _ _ _ (by unfold own; omega)).sv _ _ _ _ (by unfold own; omega)).sv _ _ _ _ (by unfold own; omega)).sv _ _ _ _ (by unfold own; omega))
  · refine ⟨?_, ?_, ?_, ?_, ⟨0, by decide, by simp [sv_rd, svo_1]; decide, fun _ => by simp [sv_rd, svo_1], fun q => absurd q (by decide), fun k hk => absurd hk (by omega)⟩⟩
    · unfold RA at hA ⊢
      simp [sv_rd, svo_1, a2, a5, a7, a6, a4, a9, a10, a11, a13, a14, a15, a16, a17]
    · unfold RB at hB ⊢
      simp [sv_rd, svo_1]
      have hd := depthF_r (σ.1 8 3 i) (σ.1 8 2 i)
      rw [dep] at hd
      grind
    · unfold RW at hW ⊢
      simp [sv_rd, svo_1]
      exact hW
    · unfold RG at hG ⊢
      simp [sv_rd, svo_1]
      exact hG
theorem div9 {x : Int32} (h : ¬ (x < 1 ∨ 2147483646 < x)) : 0 ≤ x ∧ x < 2147483647 := by grind
theorem i64_32 (x : Int32) : x.toInt64.toInt32 = x := by simp
theorem RN.z {n m : Nat} {σ τ : Sg} {z : Int32} (h : RN n m σ) (hz : 0 ≤ z ∧ z < 2147483647) (h1 : ∀ k i p, ¬ (k = 7 ∧ (p = 0 ∨ (i = 0 ∧ p = 22))) → τ.1 k i p = σ.1 k i p) (h2 : τ.1 7 0 22 = z) (h3 : τ.2.1 = z.toInt64) : RN n m τ := by
  have hq : RN n m (sv (svz σ z.toInt64) 7 0 22 z) := by
    obtain ⟨g1, g2, g3, g4, g5, g6, g7, g8, g9, g10, g11, g12, g13, g14, g15⟩ := h
    refine ⟨g1, g2, g3, g4, by simp [sv_rd, svz_1]; exact g5, by simp [sv_rd, svz_1]; exact g6, by simp [sv_rd, sv_2, svz_z], by simp [sv_rd]; exact hz.1, by simp [sv_rd]; exact hz.2, g10, g11, fun j hj => ?_, fun j hj => ?_, g14, g15⟩
    · exact (g12 j hj).mv (fun k k1 k2 p => by rw [sv_rd, if_neg (by omega)]; rfl) (fun f hf => by rw [sv_rd, if_neg (by omega)]; rfl) (fun k hk => ⟨by rw [sv_rd, if_neg (by omega)]; rfl, by rw [sv_rd, if_neg (by omega)]; rfl⟩) rfl
    · exact g13 j hj
  refine hq.q ⟨fun k i p hk => ?_, h3⟩
  rw [sv_rd]
  by_cases hc : k = 7 ∧ i = 0 ∧ p = 22
  · obtain ⟨rfl, rfl, rfl⟩ := hc; rw [if_pos ⟨rfl, rfl, rfl⟩]; exact h2
  · rw [if_neg hc]
    exact h1 k i p (by omega)
theorem OK_seed {σ : Sg} {n m : Nat} (h : RN n m σ) (a : Int32) : OK (f_L_seed σ a) (fun τ => f_X4_seed τ a) := by
  by_cases h1 : a < 1 ∨ 2147483646 < a
  · refine OK.no h 1 (Lq.rf σ) (τ := σ) (b := 0) ?_ ?_ (by decide)
    · unfold f_L_seed f_X3_seed f_X3_seed_0
      simp only [c_in, if_pos h1, bx_l]; rfl
    · simp only [f_X4_seed, f_X4_seed_0, f_X4_seed_16, m_bt, if_pos h1, Option.bind_some, if_true, w_1, if_neg one_ne]
  · have hzz : σ.2.1.toInt32 = σ.1 7 0 22 := by rw [h.2.2.2.2.2.2.1]; exact i64_32 _
    refine OK.yes (τ := svo (svz σ a.toInt64) (σ.1 7 0 22).toInt64) (τ2 := sv (sv (svo (svz σ a.toInt64) (σ.1 7 0 22).toInt64) 7 0 0 0) 7 0 22 a) (v := σ.1 7 0 22) (n := n) (m := m) ?_ ?_ rfl rfl ?_
    · unfold f_L_seed f_X3_seed f_X3_seed_0
      simp only [c_in, if_neg h1, bx_r, hzz]
    · simp only [f_X4_seed, f_X4_seed_0, f_X4_seed_16, m_bt, if_neg h1, Option.bind_some, if_true, w_0, if_neg one_ne]; rfl
    · exact h.z (div9 h1) (fun k i p hk => by rw [sv_rd, if_neg (by omega), sv_rd, if_neg (by omega)]; rfl) rfl rfl
/-- a number that is no order's -/
theorem o_cases {σ : Sg} {n m : Nat} (h : RN n m σ) (a : Int32) : (f_X3_needOrder σ a = some (.inl 1, σ) ∧ ∀ τ : Sg, τ.1 7 0 23 = nI m → f_X4_isNoOrder τ a = some (1, sv τ 7 0 0 1))
    ∨ ∃ j, j < m ∧ j < 6 ∧ a = nI j ∧ RO σ j ∧ (∀ τ : Sg, ¬ τ.1 11 0 j = 0 → f_X3_needOrder τ a = some (.inr j, τ)) ∧ ∀ τ : Sg, τ.1 7 0 23 = nI m → f_X4_isNoOrder τ a = some (0, sv τ 7 0 0 0) := by
  have hm6 := h.m6
  have hw1 : ∀ τ : Sg, (f_X4_isWrong τ 1).bind (fun r2 => if r2.1 = 0 ∨ r2.1 = 1 then some (r2.1, r2.2) else none) = some (1, sv τ 7 0 0 1) := fun τ => by
    rw [w_1]; rfl
  have hw0 : ∀ τ : Sg, (f_X4_isWrong τ 0).bind (fun r2 => if r2.1 = 0 ∨ r2.1 = 1 then some (r2.1, r2.2) else none) = some (0, sv τ 7 0 0 0) := fun τ => by
    rw [w_0]; rfl
  have hno : ∀ (τ : Sg), τ.1 7 0 23 = nI m → (a < 0 ∨ nI m - 1 < a) → f_X4_isNoOrder τ a = some (1, sv τ 7 0 0 1) := fun τ hτ hb => by
    unfold f_X4_isNoOrder f_X4_isNoOrder_0 f_X4_isNoOrder_20
    rw [m_bt, hτ, if_pos hb]
    simp only [Option.bind_some, if_true]
    exact hw1 τ
  by_cases h1 : a < 0
  · refine Or.inl ⟨?_, fun τ hτ => hno τ hτ (Or.inl h1)⟩
    unfold f_X3_needOrder f_X3_needOrder_0
    rw [if_pos h1]
  · obtain ⟨j, hj31, rfl⟩ := nI_of h1
    by_cases hj : j < m
    · have hj6 : j < 6 := by omega
      have hO := h.2.2.2.2.2.2.2.2.2.2.2.2.1 j hj
      refine Or.inr ⟨j, hj, hj6, rfl, hO, fun τ hf => ?_, fun τ hτ => ?_⟩
      · unfold f_X3_needOrder f_X3_needOrder_0
        simp only [if_neg h1, if_neg (show ¬ (6 : Int32) ≤ nI j from nI_ge (b := 6) hj6 (by decide)), h6 hj6, cl8 (show j < 480 by omega), if_false, if_neg hf]
      · unfold f_X4_isNoOrder f_X4_isNoOrder_0 f_X4_isNoOrder_20
        have e1 : ¬ (nI j < 0 ∨ nI m - 1 < nI j) := by
          obtain ⟨k, rfl⟩ : ∃ k, m = k + 1 := ⟨m - 1, by omega⟩
          rw [nI_pred]
          exact fun q => q.elim h1 (fun q => nI_nlt (show j ≤ k by omega) (by omega) q)
        rw [m_bt, hτ, if_neg e1]
        simp only [Option.bind_some, if_neg one_ne]
        exact hw0 τ
    · refine Or.inl ⟨?_, fun τ hτ => hno τ hτ (Or.inr ?_)⟩
      · unfold f_X3_needOrder f_X3_needOrder_0
        rw [if_neg h1]
        by_cases h2 : 6 ≤ nI j
        · rw [if_pos h2]
        · have hj6 : j < 6 := by
            rcases Nat.lt_or_ge j 6 with q | q
            · exact q
            · exact absurd (nI_le (a := 6) q hj31) h2
          rw [if_neg h2]
          simp only [h6 hj6, cl8 (show j < 480 by omega), if_false, h.2.2.2.2.2.2.2.2.2.2.1 j (by omega), if_true]
      · rcases m with _ | k
        · rw [show nI 0 - 1 = -1 by decide]
          exact Int32.lt_iff_toInt_lt.mpr (by rw [nI_toInt hj31, show ((-1 : Int32)).toInt = -1 by decide]; omega)
        · rw [nI_pred]; exact nI_lt (by omega) hj31
theorem OK_sent {σ : Sg} {n m : Nat} (h : RN n m σ) (a : Int32) : OK (f_L_sent σ a) (fun τ => f_X4_sent τ a) := by
  rcases o_cases h a with ⟨e1, e2⟩ | ⟨j, hj, hj6, rfl, hO, e1, e2⟩
  · refine OK.no h 1 (Lq.rf σ) (τ := σ) (b := 0) ?_ ?_ (by decide)
    · unfold f_L_sent f_X3_sent f_X3_sent_0
      rw [e1]; rfl
    · simp only [f_X4_sent, f_X4_sent_0, e2 σ h.o7, Option.bind_some, if_neg one_ne]
  · refine OK.get h (v := σ.1 6 j 3) ?_ ?_
    · unfold f_L_sent f_X3_sent f_X3_sent_0
      rw [e1 σ hO.2.2.2.2.1]; rfl
    · simp only [f_X4_sent, f_X4_sent_0, e2 (svo σ (σ.1 6 j 3).toInt64) h.o7, Option.bind_some, if_true, h6 hj6, if_false, cl8 (show j < 480 by omega), t8, svo_1, hO.2.2.2.1]
theorem OK_order {σ : Sg} {n m : Nat} (h : RN n m σ) (a b c : Int32) (ha : (a.toUInt32 % 65536).toInt32 = a) (hb : (b.toUInt32 % 65536).toInt32 = b) : OK (f_L_order σ a b c) (fun τ => f_X4_order τ a b c) := by
  by_cases h1 : a = 102 ∨ a = 104 ∨ a = 115
  case neg =>
    refine OK.no h 1 (Lq.rf σ) (τ := σ) (b := 0) ?_ ?_ (by decide)
    · unfold f_L_order f_X3_order f_X3_order_0
      simp only [c_shape, if_neg h1, bx_l]; rfl
    · simp only [f_X4_order, f_X4_order_0, f_X4_order_25, f_X4_order_43, m_shape, if_neg h1, Option.bind_some, if_true, w_1, if_neg one_ne]
  by_cases h2 : b = 98 ∨ b = 115 ∨ b = 109
  case neg =>
    refine OK.no h 1 (Lq.rf σ) (τ := σ) (b := 0) ?_ ?_ (by decide)
    · unfold f_L_order f_X3_order f_X3_order_0
      simp only [c_shape, if_pos h1, c_cut, if_neg h2, bx_l, bx_r]; rfl
    · simp only [f_X4_order, f_X4_order_0, f_X4_order_25, f_X4_order_43, m_shape, if_pos h1, m_cut, if_neg h2, Option.bind_some, if_true, w_1, if_neg one_ne]
  by_cases h3 : c < 1 ∨ 8 < c
  · refine OK.no h 1 (Lq.rf σ) (τ := σ) (b := 0) ?_ ?_ (by decide)
    · unfold f_L_order f_X3_order f_X3_order_0
      simp only [c_shape, if_pos h1, c_cut, if_pos h2, c_in, if_pos h3, bx_l, bx_r]; rfl
    · simp only [f_X4_order, f_X4_order_0, f_X4_order_25, f_X4_order_43, m_shape, if_pos h1, m_cut, if_pos h2, m_bt, if_pos h3, Option.bind_some, if_true, w_1, if_neg one_ne]
  have hm6 := h.m6
  by_cases h4 : m = 6
  · subst h4
    have e3 : ¬ σ.1 0 0 3 < 6 := by rw [h.o0]; decide
    have e7 : σ.1 7 0 23 = 6 := by rw [h.o7]; decide
    refine OK.no h 2 (Lq.rf σ) (τ := σ) (b := 0) ?_ ?_ (by decide)
    · unfold f_L_order f_X3_order f_X3_order_0
      simp only [c_shape, if_pos h1, c_cut, if_pos h2, c_in, if_neg h3, bx_l, bx_r, if_neg e3]; rfl
    · simp only [f_X4_order, f_X4_order_0, f_X4_order_25, f_X4_order_43, m_shape, if_pos h1, m_cut, if_pos h2, m_bt, if_neg h3, Option.bind_some, if_true, w_2, if_neg one_ne, e7]
  have hm : m < 6 := by omega
  have hcl := cl8 (show m < 480 by omega)
  have e3 : σ.1 0 0 3 < 6 := by rw [h.o0]; exact nI_lt (b := 6) hm (by decide)
  have e7 : ¬ nI m = 6 := fun q => h4 ((nI_eq (by omega) (by decide)).mp (q : nI m = nI 6))
  have e8 : nI m + 1 - 1 = nI m := by rw [nI_1, nI_pred]
  refine OK.yes (n := n) (m := m + 1) (τ := svo (sv (sv (sr σ 6 m (og a b c)) 11 0 m 1) 0 0 3 (nI m + 1)) (nI m).toInt64) (v := nI m) (τ2 := sv (sv (sv (sv (sv (svo (sv (sv (sr σ 6 m (og a b c)) 11 0 m 1) 0 0 3 (nI m + 1)) (nI m).toInt64) 7 0 0 0) 8 24 m a) 8 25 m b) 8 26 m c) 7 0 23 (nI m + 1)) ?_ ?_ rfl rfl ?_
  · unfold f_L_order f_X3_order f_X3_order_0
    simp only [c_shape, if_pos h1, c_cut, if_pos h2, c_in, if_neg h3, bx_l, bx_r, if_pos e3]
    unfold tl_order
    simp only [h.o0, h6 hm, hcl, if_false]
    rw [if_pos ⟨ha, hb⟩]
    simp only [bx_r, e8]
  · have e9 : (svo (sv (sv (sr σ 6 m (og a b c)) 11 0 m 1) 0 0 3 (nI m + 1)) (nI m).toInt64).1 7 0 23 = nI m := h.o7
    simp only [f_X4_order, f_X4_order_0, f_X4_order_25, f_X4_order_43, m_shape, if_pos h1, m_cut, if_pos h2, m_bt, if_neg h3, Option.bind_some, if_true, w_0, if_neg one_ne, e9, if_neg e7, show ∀ τ : Sg, (sv τ 7 0 0 0).1 7 0 23 = τ.1 7 0 23 from fun _ => rfl, h6 hm, if_false, hcl, vch ha, vch hb]
    simp [sv_rd, e8]
  · obtain ⟨g1, g2, g3, g4, g5, g6, g7, g8, g9, g10, g11, g12, g13, g14, g15⟩ := h
    refine ⟨g1, by omega, g3, by simp [sv_rd, svo_1, nI_1], g5, by simp [sv_rd, nI_1], g7, g8, g9, g10, fun j hj => ?_, fun j hj => ?_, fun j hj => ?_, fun j hj hj8 f hf hf2 => ?_, fun j hj hj6 => ?_⟩
    · simp [sv_rd, svo_1, sr_rd, show ¬ j = m by omega]; exact g11 j (by omega)
    · exact (g12 j hj).mv (fun k k1 k2 p => by simp [sv_rd, svo_1, sr_rd, show ¬ k = 0 by omega, show ¬ k = 6 by omega, show ¬ k = 7 by omega, show ¬ k = 8 by omega, show ¬ k = 11 by omega]) (fun f hf => by simp [sv_rd, svo_1, sr_rd, show ¬ f = 24 by omega, show ¬ f = 25 by omega, show ¬ f = 26 by omega]) (fun k hk => ⟨rfl, rfl⟩) rfl
    · by_cases hjm : j = m
      · subst hjm
        have e15 := g15 j (by omega) (by omega)
        unfold RO
        simp [sv_rd, svo_1, sr_rd, og, e15]
        grind
      · have hO := g13 j (by omega)
        unfold RO at hO ⊢
        simp [sv_rd, svo_1, sr_rd, hjm]
        exact hO
    · simp [sv_rd, svo_1, sr_rd, show ¬ f = 24 by omega, show ¬ f = 25 by omega, show ¬ f = 26 by omega]
      exact g14 j hj hj8 f hf hf2
    · simp [sv_rd, svo_1, sr_rd]
      exact g15 j (by omega) hj6

theorem OK_blank {σ : Sg} {n m : Nat} (h : RN n m σ) (a b c d : Int32) (ha : (a.toUInt32 % 65536).toInt32 = a) : OK (f_L_blank σ a b c d) (fun τ => f_X4_blank τ a b c d) := by
  have hbad : ∀ τ : Sg, f_X4_blank_48 τ a b c d 0 = some (0, sv τ 7 0 0 1) := fun τ => by
    simp only [f_X4_blank_48, f_X4_blank_74, if_true, w_1, Option.bind_some, if_neg one_ne]
  by_cases h1 : a = 102 ∨ a = 104 ∨ a = 115
  case neg =>
    refine OK.no h 1 (Lq.rf σ) (τ := σ) (b := 0) ?_ ?_ (by decide)
    · unfold f_L_blank f_X3_blank f_X3_blank_0
      simp only [c_shape, if_neg h1, bx_l]; rfl
    · simp only [f_X4_blank, f_X4_blank_0, f_X4_blank_47, m_shape, if_neg h1, Option.bind_some, if_true, hbad]
  by_cases h2 : b < 50 ∨ 200 < b
  · refine OK.no h 1 (Lq.rf σ) (τ := σ) (b := 0) ?_ ?_ (by decide)
    · unfold f_L_blank f_X3_blank f_X3_blank_0
      simp only [c_shape, if_pos h1, c_in, if_pos h2, bx_l, bx_r]; rfl
    · simp only [f_X4_blank, f_X4_blank_0, f_X4_blank_47, m_shape, if_pos h1, m_bt, if_pos h2, Option.bind_some, if_true, hbad, if_neg one_ne]
  by_cases h3 : c < 20 ∨ 99 < c
  · refine OK.no h 1 (Lq.rf σ) (τ := σ) (b := 0) ?_ ?_ (by decide)
    · unfold f_L_blank f_X3_blank f_X3_blank_0
      simp only [c_shape, if_pos h1, c_in, if_neg h2, if_pos h3, bx_l, bx_r]; rfl
    · simp only [f_X4_blank, f_X4_blank_0, f_X4_blank_47, m_shape, if_pos h1, m_bt, if_neg h2, if_pos h3, Option.bind_some, if_true, hbad, if_neg one_ne]
  by_cases h4 : d < 40 ∨ 140 < d
  · refine OK.no h 1 (Lq.rf σ) (τ := σ) (b := 0) ?_ ?_ (by decide)
    · unfold f_L_blank f_X3_blank f_X3_blank_0
      simp only [c_shape, if_pos h1, c_in, if_neg h2, if_neg h3, if_pos h4, bx_l, bx_r]; rfl
    · simp only [f_X4_blank, f_X4_blank_0, f_X4_blank_47, m_shape, if_pos h1, m_bt, if_neg h2, if_neg h3, if_pos h4, Option.bind_some, if_true, hbad, if_neg one_ne]
  have hn8 := h.n8
  by_cases h5 : n = 8
  · subst h5
    have e3 : ¬ σ.1 0 0 1 < 8 := by rw [h.c0]; decide
    have e7 : σ.1 7 0 1 = 8 := by rw [h.c7]; decide
    refine OK.no h 2 (Lq.rf σ) (τ := σ) (b := 0) ?_ ?_ (by decide)
    · unfold f_L_blank f_X3_blank f_X3_blank_0
      simp only [c_shape, if_pos h1, c_in, if_neg h2, if_neg h3, if_neg h4, bx_l, bx_r, if_neg e3]; rfl
    · simp only [f_X4_blank, f_X4_blank_0, f_X4_blank_48, f_X4_blank_74, m_shape, if_pos h1, m_bt, if_neg h2, if_neg h3, if_neg h4, Option.bind_some, if_true, if_neg one_ne, e7, w_2]
  have hn : n < 8 := by omega
  have hcl := cl8 (show n < 480 by omega)
  have e3 : σ.1 0 0 1 < 8 := by rw [h.c0]; exact nI_lt (b := 8) hn (by decide)
  have e7 : ¬ nI n = 8 := fun q => h5 ((nI_eq (by omega) (by decide)).mp (q : nI n = nI 8))
  have e8 : nI n + 1 - 1 = nI n := by rw [nI_1, nI_pred]
  refine OK.yes (n := n + 1) (m := m) (τ := svo (sv (sv (nwT σ n a b c d) 10 0 n 1) 0 0 1 (nI n + 1)) (nI n).toInt64) (v := nI n) (τ2 := sv (sv (sv (sv (sv (sv (sv (sv (svo (sv (sv (nwT σ n a b c d) 10 0 n 1) 0 0 1 (nI n + 1)) (nI n).toInt64) 7 0 0 0) 8 2 n a) 8 5 n b) 8 6 n c) 8 7 n d) 8 3 n 45) 8 4 n 115) 7 0 1 (nI n + 1)) ?_ ?_ rfl rfl ?_
  · unfold f_L_blank f_X3_blank f_X3_blank_0
    simp only [c_shape, if_pos h1, c_in, if_neg h2, if_neg h3, if_neg h4, bx_l, bx_r, if_pos e3]
    unfold tl_blank
    simp only [h.c0, h8 hn, hcl, if_false]
    rw [if_pos ha]
    simp only [bx_r, e8]
  · have e9 : (svo (sv (sv (nwT σ n a b c d) 10 0 n 1) 0 0 1 (nI n + 1)) (nI n).toInt64).1 7 0 1 = nI n := h.c7
    simp only [f_X4_blank, f_X4_blank_0, f_X4_blank_48, f_X4_blank_74, m_shape, if_pos h1, m_bt, if_neg h2, if_neg h3, if_neg h4, Option.bind_some, if_true, w_0, if_neg one_ne, e9, if_neg e7, show ∀ τ : Sg, (sv τ 7 0 0 0).1 7 0 1 = τ.1 7 0 1 from fun _ => rfl, h8 hn, if_false, hcl, vch ha, vc45, vc115]
    simp [sv_rd, e8]
  · obtain ⟨g1, g2, g3, g4, g5, g6, g7, g8, g9, g10, g11, g12, g13, g14, g15⟩ := h
    refine ⟨by omega, g2, by simp [sv_rd, svo_1, nI_1], g4, by simp [sv_rd, nI_1], g6, g7, g8, g9, fun j hj => ?_, g11, fun j hj => ?_, fun j hj => ?_, fun j hj hj8 f hf hf2 => ?_, g15⟩
    · simp [sv_rd, svo_1, nwT, sr_rd, show ¬ j = n by omega]; exact g10 j (by omega)
    · by_cases hjn : j = n
      · subst hjn
        have e14 := g14 j (by omega) hn
        have x8 := e14 8 (by decide) (by decide); have x9 := e14 9 (by decide) (by decide); have x10 := e14 10 (by decide) (by decide); have x11 := e14 11 (by decide) (by decide); have x12 := e14 12 (by decide) (by decide); have x13 := e14 13 (by decide) (by decide)
        have x14 := e14 14 (by decide) (by decide); have x15 := e14 15 (by decide) (by decide); have x16 := e14 16 (by decide) (by decide); have x17 := e14 17 (by decide) (by decide); have x18 := e14 18 (by decide) (by decide); have x19 := e14 19 (by decide) (by decide)
        refine ⟨?_, ?_, ?_, ?_, 0, by decide, by simp [sv_rd, svo_1, nwT, sr_rd]; decide, fun _ => by simp [sv_rd, svo_1, nwT, sr_rd], fun q => absurd q (by decide), fun k hk => absurd hk (by omega)⟩
        · unfold RA
          simp [sv_rd, svo_1, nwT, sr_rd, tg, x9, x10, x11, x13, x14, x15, x16, x17]
        · unfold RB
          simp [sv_rd, svo_1, nwT, sr_rd, tg]
          grind
        · unfold RW
          simp [sv_rd, svo_1, nwT, sr_rd, tg, x18]
        · unfold RG
          simp [sv_rd, svo_1, nwT, sr_rd, tg, x19]
      · exact (g12 j (by omega)).mv (fun k k1 k2 p => by simp [sv_rd, svo_1, nwT, sr_rd, hjn, show ¬ k = 0 by omega, show ¬ k = 7 by omega, show ¬ k = 8 by omega, show ¬ k = 10 by omega]) (fun f hf => by simp [sv_rd, svo_1, nwT, sr_rd, hjn]) (fun k hk => ⟨by simp [sv_rd, svo_1, nwT, sr_rd], by simp [sv_rd, svo_1, nwT, sr_rd]⟩) (by simp [sv_rd, svo_1, nwT, sr_rd, hjn])
    · exact g13 j hj
    · simp [sv_rd, svo_1, nwT, sr_rd, show ¬ f = 2 by omega, show ¬ f = 5 by omega, show ¬ f = 6 by omega, show ¬ f = 7 by omega, show ¬ f = 3 by omega, show ¬ f = 4 by omega]
      exact g14 j (by omega) hj8 f hf hf2
theorem place_loop (τ : Sg) {i t : Nat} (hi : i < 8) (ht : t ≤ 60) : ∀ (fu k : Nat), k ≤ t → t - k < fu → f_X4_placeOf_5 fu τ (nI i) (nI t) (plc (τ.1 8 3 i) (τ.1 8 8 i) k) (nI k) = some (plc (τ.1 8 3 i) (τ.1 8 8 i) t, τ) := by
  intro fu
  induction fu with
  | zero => intro k _ h; omega
  | succ fu ih =>
    intro k hk hf
    show g_X4_placeOf_5 (f_X4_placeOf_5 fu) τ (nI i) (nI t) (plc (τ.1 8 3 i) (τ.1 8 8 i) k) (nI k) = _
    unfold g_X4_placeOf_5
    by_cases hkt : k = t
    · subst hkt
      rw [if_pos (Int32.le_refl _)]
    · rw [if_neg (nI_ge (show k < t by omega) (by omega))]
      simp only [g8 hi, h8 hi, if_false, cl8 (show i < 480 by omega), m_pitch, Option.bind_some, d3, rem3 (show k < 60 by omega), nI_1]
      rw [Int32.mul_comm]
      exact ih (k + 1) (by omega) (by omega)
theorem m_placeOf (τ : Sg) {i t : Nat} (hi : i < 8) (ht : t ≤ 60) : f_X4_placeOf τ (nI i) (nI t) = some (plc (τ.1 8 3 i) (τ.1 8 8 i) t, τ) := by
  have h := place_loop τ hi ht 70 0 (Nat.zero_le _) (by omega)
  exact h
/-- the tooth's number is refused on both sides, or it is a tooth's -/
theorem k_cases {σ : Sg} {i c : Nat} (hc : c ≤ 60) (h3 : σ.1 2 i 3 = nI c) (h16 : σ.1 8 16 i = nI c) (hi8 : i < 8) (b : Int32) : (f_X3_needTooth σ i b = some (.inl 5, σ) ∧ (b < 0 ∨ nI c - 1 < b))
    ∨ ∃ k, k < c ∧ b = nI k ∧ f_X3_needTooth σ i b = some (.inr (), σ) ∧ ¬ (nI k < 0 ∨ nI c - 1 < nI k) := by
  by_cases h1 : b < 0
  · refine Or.inl ⟨?_, Or.inl h1⟩
    unfold f_X3_needTooth f_X3_needTooth_0
    rw [if_pos h1]
  · obtain ⟨k, hk31, rfl⟩ := nI_of h1
    by_cases hk : k < c
    · refine Or.inr ⟨k, hk, rfl, ?_, ?_⟩
      · unfold f_X3_needTooth f_X3_needTooth_0
        rw [if_neg h1, h3, if_pos (nI_lt hk (by omega))]
      · obtain ⟨d, rfl⟩ : ∃ d, c = d + 1 := ⟨c - 1, by omega⟩
        rw [nI_pred]
        exact fun q => q.elim h1 (fun q => nI_nlt (show k ≤ d by omega) (by omega) q)
    · refine Or.inl ⟨?_, Or.inr ?_⟩
      · unfold f_X3_needTooth f_X3_needTooth_0
        rw [if_neg h1, h3, if_neg (nI_nlt (by omega) hk31)]
      · rcases c with _ | d
        · rw [show nI 0 - 1 = -1 by decide]
          exact Int32.lt_iff_toInt_lt.mpr (by rw [nI_toInt hk31, show ((-1 : Int32)).toInt = -1 by decide]; omega)
        · rw [nI_pred]; exact nI_lt (by omega) hk31
theorem m_notooth (τ : Sg) {n i c : Nat} (hn : n ≤ 8) (h1 : τ.1 7 0 1 = nI n) (hi : i < n) (hg : τ.1 8 19 i = 0) (h16 : τ.1 8 16 i = nI c) (b : Int32) :
    f_X4_isNoTooth τ (nI i) b = if b < 0 ∨ nI c - 1 < b then some (1, sv (sv τ 7 0 0 0) 7 0 0 2) else some (0, sv (sv τ 7 0 0 0) 7 0 0 0) := by
  unfold f_X4_isNoTooth f_X4_isNoTooth_0
  rw [m_none τ hn h1 hi hg]
  simp only [Option.bind_some, if_true, h8 (show i < 8 by omega), if_false, cl8 (show i < 480 by omega), m_bt, t8, h16]
  by_cases h : b < 0 ∨ nI c - 1 < b
  · rw [if_pos h, if_pos h]
    simp only [if_true, f_X4_isNoTooth_30, w_2, Option.bind_some, if_neg one_ne, f_X4_isNoTooth_36]
  · rw [if_neg h, if_neg h]
    simp only [if_neg one_ne, f_X4_isNoTooth_30, w_0, Option.bind_some, if_true]
theorem OK_place {σ : Sg} {n m : Nat} (h : RN n m σ) (a b : Int32) : OK (f_L_place σ a b) (fun τ => f_X4_place τ a b) := by
  rcases t_cases h a with hd | ⟨i, hi, hi8, rfl, hg, hf, hA, hB, hW, hG, c, hc, hC1, hC2, hC3, hC4⟩
  · exact OK.dead h (X_place h hd _) (M_place h.n8 h.c7 hd _)
  have h16 : σ.1 8 16 i = nI c := by rw [hA.2.2.2.2.2.2.2.2.2.2.2.1, hC1]
  rcases k_cases hc hC1 h16 hi8 b with ⟨e1, e2⟩ | ⟨k, hk, rfl, e1, e3⟩
  · refine OK.no h 2 ((Lq.rf σ).t 0) (τ := σ) (b := 0) ?_ ?_ (by decide)
    · unfold f_L_place f_X3_place f_X3_place_0
      simp only [t_live σ hi8 hf, bx_r, e1, bx_l]; rfl
    · simp only [f_X4_place, f_X4_place_0, m_notooth σ h.n8 h.c7 hi hg h16, if_pos e2, Option.bind_some, if_neg one_ne]
  · refine OK.yes (n := n) (m := m) (v := σ.1 3 i k) (τ := svo σ (σ.1 3 i k).toInt64) (τ2 := sv (sv (svo σ (σ.1 3 i k).toInt64) 7 0 0 0) 7 0 0 0) ?_ ?_ rfl rfl (h.q ((((Lq.rf σ).o _).t 0).t 0))
    · unfold f_L_place f_X3_place f_X3_place_0
      simp only [t_live σ hi8 hf, bx_r, e1, h60 (show k < 60 by omega), if_false, cl8 (show k < 480 by omega)]
    · have hm := m_notooth (svo σ (σ.1 3 i k).toInt64) h.n8 h.c7 hi hg h16 (nI k)
      have hp := m_placeOf (sv (sv (svo σ (σ.1 3 i k).toInt64) 7 0 0 0) 7 0 0 0) hi8 (show k ≤ 60 by omega)
      simp only [f_X4_place, f_X4_place_0, hm, if_neg e3, Option.bind_some, if_true, hp]
      simp only [t8, svo_1, (hC3 (by omega)).1, (hC3 (by omega)).2.1, ← (hC4 k hk).1]
theorem OK_height {σ : Sg} {n m : Nat} (h : RN n m σ) (a b : Int32) : OK (f_L_height σ a b) (fun τ => f_X4_height τ a b) := by
  rcases t_cases h a with hd | ⟨i, hi, hi8, rfl, hg, hf, hA, hB, hW, hG, c, hc, hC1, hC2, hC3, hC4⟩
  · exact OK.dead h (X_height h hd _) (M_height h.n8 h.c7 hd _)
  have h16 : σ.1 8 16 i = nI c := by rw [hA.2.2.2.2.2.2.2.2.2.2.2.1, hC1]
  rcases k_cases hc hC1 h16 hi8 b with ⟨e1, e2⟩ | ⟨k, hk, rfl, e1, e3⟩
  · refine OK.no h 2 ((Lq.rf σ).t 0) (τ := σ) (b := 0) ?_ ?_ (by decide)
    · unfold f_L_height f_X3_height f_X3_height_0
      simp only [t_live σ hi8 hf, bx_r, e1, bx_l]; rfl
    · simp only [f_X4_height, f_X4_height_0, m_notooth σ h.n8 h.c7 hi hg h16, if_pos e2, Option.bind_some, if_neg one_ne]
  · refine OK.yes (n := n) (m := m) (v := σ.1 4 i k) (τ := svo σ (σ.1 4 i k).toInt64) (τ2 := sv (sv (svo σ (σ.1 4 i k).toInt64) 7 0 0 0) 7 0 0 0) ?_ ?_ rfl rfl (h.q ((((Lq.rf σ).o _).t 0).t 0))
    · unfold f_L_height f_X3_height f_X3_height_0
      simp only [t_live σ hi8 hf, bx_r, e1, h60 (show k < 60 by omega), if_false, cl8 (show k < 480 by omega)]
    · have hm := m_notooth (svo σ (σ.1 4 i k).toInt64) h.n8 h.c7 hi hg h16 (nI k)
      simp only [f_X4_height, f_X4_height_0, hm, if_neg e3, Option.bind_some, if_true, n60a, g480 (show 60 * i + k < 480 by omega), h480 (show 60 * i + k < 480 by omega), if_false, cl8 (show 60 * i + k < 480 by omega), t8, svo_1, (hC4 k hk).2.1]
theorem OK_wear {σ : Sg} {n m : Nat} (h : RN n m σ) (a b : Int32) : OK (f_L_wear σ a b) (fun τ => f_X4_wear τ a b) := by
  rcases t_cases h a with hd | ⟨i, hi, hi8, rfl, hg, hf, hA, hB, hW, hG, c, hc, hC1, hC2, hC3, hC4⟩
  · exact OK.dead h (X_wear h hd _) (M_wear h.n8 h.c7 hd _)
  have h16 : σ.1 8 16 i = nI c := by rw [hA.2.2.2.2.2.2.2.2.2.2.2.1, hC1]
  rcases k_cases hc hC1 h16 hi8 b with ⟨e1, e2⟩ | ⟨k, hk, rfl, e1, e3⟩
  · refine OK.no h 2 ((Lq.rf σ).t 0) (τ := σ) (b := 0) ?_ ?_ (by decide)
    · unfold f_L_wear f_X3_wear f_X3_wear_0
      simp only [t_live σ hi8 hf, bx_r, e1, bx_l]; rfl
    · simp only [f_X4_wear, f_X4_wear_0, m_notooth σ h.n8 h.c7 hi hg h16, if_pos e2, Option.bind_some, if_neg one_ne]
  · refine OK.yes (n := n) (m := m) (v := σ.1 5 i k) (τ := svo σ (σ.1 5 i k).toInt64) (τ2 := sv (sv (svo σ (σ.1 5 i k).toInt64) 7 0 0 0) 7 0 0 0) ?_ ?_ rfl rfl (h.q ((((Lq.rf σ).o _).t 0).t 0))
    · unfold f_L_wear f_X3_wear f_X3_wear_0
      simp only [t_live σ hi8 hf, bx_r, e1, h60 (show k < 60 by omega), if_false, cl8 (show k < 480 by omega)]
    · have hm := m_notooth (svo σ (σ.1 5 i k).toInt64) h.n8 h.c7 hi hg h16 (nI k)
      simp only [f_X4_wear, f_X4_wear_0, hm, if_neg e3, Option.bind_some, if_true, n60a, g480 (show 60 * i + k < 480 by omega), h480 (show 60 * i + k < 480 by omega), if_false, cl8 (show 60 * i + k < 480 by omega), t8, svo_1, (hC4 k hk).2.2.1]
theorem pstep (x y : Int32) : x + y - x = y := by grind
theorem even_loop (σ : Sg) {i c : Nat} (hc : c ≤ 60) (h3 : σ.1 2 i 3 = nI c) (hs : σ.1 2 i 2 = 0) (hp : ∀ k, k < c → σ.1 3 i k = plc (σ.1 2 i 0) (σ.1 2 i 2) k) (hc3 : 3 ≤ c) : ∀ (fu k : Nat), 2 ≤ k → k ≤ c → c - k < fu → f_X1_isEven_2 fu σ i (nI k) = some (1, σ) := by
  intro fu
  induction fu with
  | zero => intro k _ _ h; omega
  | succ fu ih =>
    intro k hk2 hk hf
    show g_X1_isEven_2 (f_X1_isEven_2 fu) σ i (nI k) = _
    unfold g_X1_isEven_2
    by_cases hkc : k = c
    · subst hkc
      rw [h3, if_pos (Int32.le_refl _), if_neg (show ¬ nI k < 3 from nI_nlt (a := k) (b := 3) hc3 (by omega))]
    · obtain ⟨d, rfl⟩ : ∃ d, k = d + 1 := ⟨k - 1, by omega⟩
      have e0 := hp 0 (by omega)
      have e1 := hp 1 (by omega)
      have ed := hp d (by omega)
      have ed1 := hp (d + 1) (by omega)
      rw [h3, if_neg (nI_ge (show d + 1 < c by omega) (by omega))]
      simp only [nI_pred, h60 (show d + 1 < 60 by omega), h60 (show d < 60 by omega), if_false, cl8 (show d + 1 < 480 by omega), cl8 (show d < 480 by omega),
        show (1 : Int32).toNatClampNeg = 1 by decide, show (0 : Int32).toNatClampNeg = 0 by decide, show ((1 : Int32) < 0 ∨ 60 ≤ 1) = False by decide, show ((0 : Int32) < 0 ∨ 60 ≤ 0) = False by decide]
      have hstep : σ.1 3 i (d + 1) - σ.1 3 i d = σ.1 3 i 1 - σ.1 3 i 0 := by
        rw [ed1, ed, e1, e0, hs]
        show plc _ 0 d + stepF _ 0 d - plc _ 0 d = plc _ 0 0 + stepF _ 0 0 - plc _ 0 0
        rw [pstep, pstep]
        unfold stepF
        rw [Int32.zero_mul, Int32.zero_mul]
      rw [if_pos hstep, nI_1]
      exact ih (d + 1 + 1) (by omega) (by omega) (by omega)
theorem c_even (σ : Sg) {i c : Nat} (hc : c ≤ 60) (h3 : σ.1 2 i 3 = nI c) (hp : ∀ k, k < c → σ.1 3 i k = plc (σ.1 2 i 0) (σ.1 2 i 2) k) : f_X1_isEven σ i = some (if 3 ≤ c ∧ σ.1 2 i 2 = 0 then 1 else 0, σ) := by
  unfold f_X1_isEven f_X1_isEven_0
  by_cases hc3 : 3 ≤ c
  · by_cases hs : σ.1 2 i 2 = 0
    · rw [if_pos ⟨hc3, hs⟩]
      exact even_loop σ hc h3 hs hp hc3 70 2 (by omega) (by omega) (by omega)
    · rw [if_neg (fun q => hs q.2)]
      show g_X1_isEven_2 (f_X1_isEven_2 69) σ i 2 = _
      unfold g_X1_isEven_2
      have e0 := hp 0 (by omega)
      have e1 := hp 1 (by omega)
      have e2 := hp 2 (by omega)
      rw [h3, if_neg (show ¬ nI c ≤ 2 from nI_ge (a := 2) (by omega) (by omega))]
      simp only [show (2 : Int32) - 1 = 1 by decide, show (2 : Int32).toNatClampNeg = 2 by decide, show (1 : Int32).toNatClampNeg = 1 by decide, show (0 : Int32).toNatClampNeg = 0 by decide, show ((2 : Int32) < 0 ∨ 60 ≤ 2) = False by decide, show ((1 : Int32) < 0 ∨ 60 ≤ 1) = False by decide, show ((0 : Int32) < 0 ∨ 60 ≤ 0) = False by decide, if_false]
      rw [if_neg]
      rw [e2, e1, e0]
      show ¬ plc _ _ 1 + stepF _ _ 1 - plc _ _ 1 = plc _ _ 0 + stepF _ _ 0 - plc _ _ 0
      rw [pstep, pstep]
      unfold stepF
      rw [show nI (1 % 3) = 1 by decide, show nI (0 % 3) = 0 by decide, Int32.mul_one, Int32.mul_zero]
      grind
  · rw [if_neg (fun q => hc3 q.1)]
    show g_X1_isEven_2 (f_X1_isEven_2 69) σ i 2 = _
    unfold g_X1_isEven_2
    rw [h3, if_pos (show nI c ≤ 2 from nI_le (b := 2) (by omega) (by decide)), if_pos (show nI c < 3 from nI_lt (b := 3) (by omega) (by decide))]
theorem m_sing (τ : Sg) {i c : Nat} (hi8 : i < 8) (hc : c ≤ 60) (h16 : τ.1 8 16 i = nI c) : f_X4_doesSing τ (nI i) = some (if 3 ≤ c ∧ τ.1 8 8 i = 0 then 1 else 0, τ) := by
  unfold f_X4_doesSing f_X4_doesSing_0
  simp only [h8 hi8, if_false, cl8 (show i < 480 by omega), h16]
  by_cases hc3 : 3 ≤ c
  · rw [if_neg (show ¬ nI c < 3 from nI_nlt (b := 3) hc3 (by omega))]
    by_cases hs : τ.1 8 8 i = 0
    · rw [if_pos hs, if_pos ⟨hc3, hs⟩]
    · rw [if_neg hs, if_neg (fun q => hs q.2)]
  · rw [if_pos (show nI c < 3 from nI_lt (b := 3) (by omega) (by decide)), if_neg (fun q => hc3 q.1)]
theorem OK_sings {σ : Sg} {n m : Nat} (h : RN n m σ) (a : Int32) : OK (f_L_sings σ a) (fun τ => f_X4_sings τ a) := by
  rcases t_cases h a with hd | ⟨i, hi, hi8, rfl, hg, hf, hA, hB, hW, hG, c, hc, hC1, hC2, hC3, hC4⟩
  · exact OK.dead h (X_sings h hd) (M_sings h.n8 h.c7 hd)
  have h16 : σ.1 8 16 i = nI c := by rw [hA.2.2.2.2.2.2.2.2.2.2.2.1, hC1]
  have he := c_even σ hc hC1 (fun k hk => (hC4 k hk).1)
  have hb : (if 3 ≤ c ∧ σ.1 2 i 2 = 0 then (1 : Int32) else 0) = (if 3 ≤ c ∧ σ.1 8 8 i = 0 then (1 : Int32) else 0) := by
    by_cases hc3 : 3 ≤ c
    · rw [(hC3 (by omega)).2.1]
    · rw [if_neg (fun q => hc3 q.1), if_neg (fun q => hc3 q.1)]
  refine OK.get h (v := if 3 ≤ c ∧ σ.1 2 i 2 = 0 then 1 else 0) ?_ ?_
  · unfold f_L_sings f_X3_sings f_X3_sings_0
    rw [t_live σ hi8 hf]
    simp only [bx_r, he, Option.bind_some]
    by_cases hq : 3 ≤ c ∧ σ.1 2 i 2 = 0
    · rw [if_pos hq]; rfl
    · rw [if_neg hq]; rfl
  · have hm := m_no (σ := σ) (if 3 ≤ c ∧ σ.1 2 i 2 = 0 then (1 : Int32) else 0).toInt64 h.n8 h.c7 hi hg
    have hs := m_sing (sv (svo σ (if 3 ≤ c ∧ σ.1 2 i 2 = 0 then (1 : Int32) else 0).toInt64) 7 0 0 0) hi8 hc h16
    simp only [f_X4_sings, f_X4_sings_0, hm, Option.bind_some, if_true, hs]
    simp only [t8, svo_1, hb]
    by_cases hq : 3 ≤ c ∧ σ.1 8 8 i = 0
    · rw [if_pos hq]; rfl
    · rw [if_neg hq]; rfl
/-- how many of the first k are below what is full -/
def cntF (full : Int32) (hs : Nat → Int32) : Nat → Nat
  | 0 => 0
  | k + 1 => cntF full hs k + (if full ≤ hs k then 0 else 1)
/-- whether one of the first k is worked -/
def orF (ws : Nat → Int32) : Nat → Int32
  | 0 => 0
  | k + 1 => if ws k = 0 then orF ws k else 1
theorem cntF_le (full : Int32) (hs : Nat → Int32) (k : Nat) : cntF full hs k ≤ k := by
  induction k with
  | zero => exact Nat.le_refl _
  | succ k ih => show cntF full hs k + (if full ≤ hs k then 0 else 1) ≤ k + 1; split <;> omega
theorem cntF_0 {full : Int32} {hs : Nat → Int32} {k : Nat} : cntF full hs k = 0 ↔ ∀ j, j < k → full ≤ hs j := by
  induction k with
  | zero => exact ⟨fun _ j hj => absurd hj (Nat.not_lt_zero _), fun _ => rfl⟩
  | succ k ih =>
    show cntF full hs k + (if full ≤ hs k then 0 else 1) = 0 ↔ _
    constructor
    · intro q j hj
      by_cases hk : full ≤ hs k
      · rw [if_pos hk] at q
        rcases Nat.lt_or_ge j k with r | r
        · exact ih.mp (by omega) j r
        · rw [show j = k by omega]; exact hk
      · rw [if_neg hk] at q; omega
    · intro q
      rw [if_pos (q k (by omega)), ih.mpr (fun j hj => q j (by omega))]
theorem orF_01 (ws : Nat → Int32) (k : Nat) : orF ws k = 0 ∨ orF ws k = 1 := by
  induction k with
  | zero => exact Or.inl rfl
  | succ k ih => show (if ws k = 0 then orF ws k else 1) = 0 ∨ (if ws k = 0 then orF ws k else 1) = 1; split <;> simp [ih]
theorem orF_0 {ws : Nat → Int32} {k : Nat} : orF ws k = 0 ↔ ∀ j, j < k → ws j = 0 := by
  induction k with
  | zero => exact ⟨fun _ j hj => absurd hj (Nat.not_lt_zero _), fun _ => rfl⟩
  | succ k ih =>
    show (if ws k = 0 then orF ws k else 1) = 0 ↔ _
    constructor
    · intro q j hj
      by_cases hk : ws k = 0
      · rw [if_pos hk] at q
        rcases Nat.lt_or_ge j k with r | r
        · exact ih.mp q j r
        · rw [show j = k by omega]; exact hk
      · rw [if_neg hk] at q; exact absurd q (by decide)
    · intro q
      rw [if_pos (q k (by omega))]
      exact ih.mpr (fun j hj => q j (by omega))
def fullF (σ : Sg) (i : Nat) : Int32 := if σ.1 2 i 4 = 0 then σ.1 2 i 1 else σ.1 2 i 1 - 1
theorem c_lost (σ : Sg) (i : Nat) {k : Nat} (hk : k < 60) : f_X1_hasLost σ i (nI k) = some (if fullF σ i ≤ σ.1 4 i k then 0 else 1, σ) := by
  unfold f_X1_hasLost f_X1_hasLost_0 f_X1_hasLost_26 fullF
  simp only [h60 hk, if_false, cl8 (show k < 480 by omega)]
  by_cases h1 : σ.1 2 i 4 = 0
  · rw [if_pos h1, if_pos h1]; split <;> rfl
  · rw [if_neg h1, if_neg h1]; split <;> rfl
theorem lost_loop (σ : Sg) {i c : Nat} (hc : c ≤ 60) (h3 : σ.1 2 i 3 = nI c) : ∀ (fu k : Nat), k ≤ c → c - k < fu → f_X1_lostOnes_4 fu σ i (nI (cntF (fullF σ i) (σ.1 4 i) k)) (nI k) = some (nI (cntF (fullF σ i) (σ.1 4 i) c), σ) := by
  intro fu
  induction fu with
  | zero => intro k _ h; omega
  | succ fu ih =>
    intro k hk hf
    show g_X1_lostOnes_4 (f_X1_lostOnes_4 fu) σ i (nI (cntF (fullF σ i) (σ.1 4 i) k)) (nI k) = _
    unfold g_X1_lostOnes_4 f_X1_lostOnes_23
    by_cases hkc : k = c
    · subst hkc
      rw [h3, if_pos (Int32.le_refl _)]
    · rw [h3, if_neg (nI_ge (show k < c by omega) (by omega)), c_lost σ i (show k < 60 by omega)]
      simp only [Option.bind_some, nI_1]
      have hr := ih (k + 1) (by omega) (by omega)
      by_cases hl : fullF σ i ≤ σ.1 4 i k
      · rw [if_pos hl, if_pos rfl]
        have e : cntF (fullF σ i) (σ.1 4 i) (k + 1) = cntF (fullF σ i) (σ.1 4 i) k := by show _ + (if _ then 0 else 1) = _; rw [if_pos hl]; rfl
        rw [e] at hr; exact hr
      · rw [if_neg hl, if_neg one_ne]
        have e : cntF (fullF σ i) (σ.1 4 i) (k + 1) = cntF (fullF σ i) (σ.1 4 i) k + 1 := by show _ + (if _ then 0 else 1) = _; rw [if_neg hl]
        rw [e] at hr; exact hr
theorem c_lostOnes (σ : Sg) {i c : Nat} (hc : c ≤ 60) (h3 : σ.1 2 i 3 = nI c) : f_X1_lostOnes σ i = some (nI (cntF (fullF σ i) (σ.1 4 i) c), σ) := lost_loop σ hc h3 70 0 (Nat.zero_le _) (by omega)
theorem fresh_loop (σ : Sg) {i c : Nat} (hc : c ≤ 60) (h3 : σ.1 2 i 3 = nI c) : ∀ (fu k : Nat), k ≤ c → c - k < fu → (∀ j, j < k → fullF σ i ≤ σ.1 4 i j ∧ σ.1 5 i j = 0) → f_X1_isFresh_2 fu σ i (nI k) = some (if cntF (fullF σ i) (σ.1 4 i) c = 0 ∧ orF (σ.1 5 i) c = 0 then 1 else 0, σ) := by
  intro fu
  induction fu with
  | zero => intro k _ h; omega
  | succ fu ih =>
    intro k hk hf hj
    show g_X1_isFresh_2 (f_X1_isFresh_2 fu) σ i (nI k) = _
    unfold g_X1_isFresh_2
    by_cases hkc : k = c
    · subst hkc
      rw [h3, if_pos (Int32.le_refl _), if_pos ⟨cntF_0.mpr (fun j q => (hj j q).1), orF_0.mpr (fun j q => (hj j q).2)⟩]
    · rw [h3, if_neg (nI_ge (show k < c by omega) (by omega)), c_lost σ i (show k < 60 by omega)]
      simp only [Option.bind_some, nI_1, h60 (show k < 60 by omega), cl8 (show k < 480 by omega), if_false]
      by_cases hl : fullF σ i ≤ σ.1 4 i k
      · rw [if_pos hl, if_pos rfl]
        by_cases hw : σ.1 5 i k = 0
        · rw [if_pos hw]
          refine ih (k + 1) (by omega) (by omega) (fun j q => ?_)
          rcases Nat.lt_or_ge j k with r | r
          · exact hj j r
          · rw [show j = k by omega]; exact ⟨hl, hw⟩
        · rw [if_neg hw, if_neg (fun q => hw (orF_0.mp q.2 k (by omega)))]
      · rw [if_neg hl, if_neg one_ne, if_neg (fun q => hl (cntF_0.mp q.1 k (by omega)))]
theorem c_fresh (σ : Sg) {i c : Nat} (hc : c ≤ 60) (h3 : σ.1 2 i 3 = nI c) : f_X1_isFresh σ i = some (if cntF (fullF σ i) (σ.1 4 i) c = 0 ∧ orF (σ.1 5 i) c = 0 then 1 else 0, σ) := fresh_loop σ hc h3 70 0 (Nat.zero_le _) (by omega) (fun j q => absurd q (Nat.not_lt_zero _))
def fullM (τ : Sg) (i : Nat) : Int32 := if τ.1 8 17 i = 0 then depthF (τ.1 8 3 i) (τ.1 8 2 i) else depthF (τ.1 8 3 i) (τ.1 8 2 i) - 1
theorem m_full (τ : Sg) {i : Nat} (hi8 : i < 8) : f_X4_full τ (nI i) = some (fullM τ i, τ) := by
  unfold f_X4_full f_X4_full_0 f_X4_full_19 fullM
  simp only [m_depth τ hi8, Option.bind_some, h8 hi8, if_false, cl8 (show i < 480 by omega)]
  by_cases h1 : τ.1 8 17 i = 0
  · rw [if_pos h1, if_pos h1, Int32.sub_zero]
  · rw [if_neg h1, if_neg h1]
theorem worn_loop (τ : Sg) {i c : Nat} (hi8 : i < 8) (hc : c ≤ 60) (h3 : τ.1 8 16 i = nI c) : ∀ (fu k : Nat), k ≤ c → c - k < fu → f_X4_worn_7 fu τ (nI i) (nI (cntF (fullM τ i) (fun k => τ.1 8 20 (60 * i + k)) k)) (nI (60 * i + k)) = some (nI (cntF (fullM τ i) (fun k => τ.1 8 20 (60 * i + k)) c), τ) := by
  intro fu
  induction fu with
  | zero => intro k _ h; omega
  | succ fu ih =>
    intro k hk hf
    show g_X4_worn_7 (f_X4_worn_7 fu) τ (nI i) (nI (cntF (fullM τ i) (fun k => τ.1 8 20 (60 * i + k)) k)) (nI (60 * i + k)) = _
    unfold g_X4_worn_7 f_X4_worn_42
    simp only [h8 hi8, if_false, cl8 (show i < 480 by omega), h3, n60a]
    by_cases hkc : k = c
    · subst hkc
      rw [if_pos (Int32.le_refl _)]
    · rw [if_neg (nI_ge (show 60 * i + k < 60 * i + c by omega) (by omega))]
      simp only [h480 (show 60 * i + k < 480 by omega), if_false, cl8 (show 60 * i + k < 480 by omega), m_full τ hi8, Option.bind_some, nI_1, Int32.add_zero]
      have hr := ih (k + 1) (by omega) (by omega)
      by_cases hl : fullM τ i ≤ τ.1 8 20 (60 * i + k)
      · rw [if_pos hl]
        have e : cntF (fullM τ i) (fun k => τ.1 8 20 (60 * i + k)) (k + 1) = cntF (fullM τ i) (fun k => τ.1 8 20 (60 * i + k)) k := by show _ + (if _ then 0 else 1) = _; rw [if_pos hl]; rfl
        rw [e] at hr; exact hr
      · rw [if_neg hl]
        have e : cntF (fullM τ i) (fun k => τ.1 8 20 (60 * i + k)) (k + 1) = cntF (fullM τ i) (fun k => τ.1 8 20 (60 * i + k)) k + 1 := by show _ + (if _ then 0 else 1) = _; rw [if_neg hl]
        rw [e] at hr; exact hr
theorem m_worn (τ : Sg) {i c : Nat} (hi8 : i < 8) (hc : c ≤ 60) (h3 : τ.1 8 16 i = nI c) : f_X4_worn τ (nI i) = some (nI (cntF (fullM τ i) (fun k => τ.1 8 20 (60 * i + k)) c), τ) := by
  have h := worn_loop τ hi8 hc h3 70 0 (Nat.zero_le _) (by omega)
  unfold f_X4_worn f_X4_worn_0
  rw [n60]
  exact h
theorem worked_loop (τ : Sg) {i c : Nat} (hi8 : i < 8) (hc : c ≤ 60) (h3 : τ.1 8 16 i = nI c) : ∀ (fu k : Nat), k ≤ c → c - k < fu → f_X4_isWorked_7 fu τ (nI i) (orF (fun k => τ.1 8 21 (60 * i + k)) k) (nI (60 * i + k)) = some (orF (fun k => τ.1 8 21 (60 * i + k)) c, τ) := by
  intro fu
  induction fu with
  | zero => intro k _ h; omega
  | succ fu ih =>
    intro k hk hf
    show g_X4_isWorked_7 (f_X4_isWorked_7 fu) τ (nI i) (orF (fun k => τ.1 8 21 (60 * i + k)) k) (nI (60 * i + k)) = _
    unfold g_X4_isWorked_7 f_X4_isWorked_37
    simp only [h8 hi8, if_false, cl8 (show i < 480 by omega), h3, n60a]
    by_cases hkc : k = c
    · subst hkc
      rw [if_pos (Int32.le_refl _), if_pos (orF_01 _ _)]
    · rw [if_neg (nI_ge (show 60 * i + k < 60 * i + c by omega) (by omega))]
      simp only [h480 (show 60 * i + k < 480 by omega), if_false, cl8 (show 60 * i + k < 480 by omega), nI_1]
      have hr := ih (k + 1) (by omega) (by omega)
      by_cases hl : τ.1 8 21 (60 * i + k) = 0
      · rw [if_pos hl, Int32.or_zero]
        have e : orF (fun k => τ.1 8 21 (60 * i + k)) (k + 1) = orF (fun k => τ.1 8 21 (60 * i + k)) k := by show (if _ then _ else _) = _; rw [if_pos hl]
        rw [e] at hr; exact hr
      · rw [if_neg hl]
        have e : orF (fun k => τ.1 8 21 (60 * i + k)) (k + 1) = 1 := by show (if _ then _ else _) = _; rw [if_neg hl]
        rw [e] at hr
        rw [show orF (fun k => τ.1 8 21 (60 * i + k)) k ||| 1 = 1 by rcases orF_01 (fun k => τ.1 8 21 (60 * i + k)) k with q | q <;> rw [q] <;> decide]
        exact hr
theorem m_worked (τ : Sg) {i c : Nat} (hi8 : i < 8) (hc : c ≤ 60) (h3 : τ.1 8 16 i = nI c) : f_X4_isWorked τ (nI i) = some (orF (fun k => τ.1 8 21 (60 * i + k)) c, τ) := by
  have h := worked_loop τ hi8 hc h3 70 0 (Nat.zero_le _) (by omega)
  unfold f_X4_isWorked f_X4_isWorked_0
  rw [n60]
  exact h
theorem cntF_cg {full : Int32} {hs hs' : Nat → Int32} {c : Nat} (h : ∀ k, k < c → hs k = hs' k) : cntF full hs c = cntF full hs' c := by
  induction c with
  | zero => rfl
  | succ c ih =>
    show cntF full hs c + (if full ≤ hs c then 0 else 1) = cntF full hs' c + (if full ≤ hs' c then 0 else 1)
    rw [ih (fun k hk => h k (by omega)), h c (by omega)]
theorem orF_cg {hs hs' : Nat → Int32} {c : Nat} (h : ∀ k, k < c → hs k = hs' k) : orF hs c = orF hs' c := by
  induction c with
  | zero => rfl
  | succ c ih =>
    show (if hs c = 0 then orF hs c else 1) = if hs' c = 0 then orF hs' c else 1
    rw [ih (fun k hk => h k (by omega)), h c (by omega)]
/-- a good tool for an order -/
def GD (σ : Sg) (i j c : Nat) : Prop := σ.1 1 i 0 = σ.1 6 j 0 ∧ σ.1 2 i 0 = σ.1 6 j 1 ∧ σ.1 1 i 4 = 104 ∧ ¬ σ.1 1 i 7 < 50 ∧ ¬ 3 < σ.1 1 i 8 ∧ ¬ (3 ≤ c ∧ σ.1 2 i 2 = 0) ∧ cntF (fullF σ i) (σ.1 4 i) c = 0 ∧ orF (σ.1 5 i) c = 0
theorem one_ne' : ((1 : Int32) = 0) = False := by decide
theorem c_takes (σ : Sg) {i j c : Nat} (hc : c ≤ 60) (h3 : σ.1 2 i 3 = nI c) (hp : ∀ k, k < c → σ.1 3 i k = plc (σ.1 2 i 0) (σ.1 2 i 2) k) : (GD σ i j c ∧ f_X0_takes σ j i = some (1, σ)) ∨ (¬ GD σ i j c ∧ f_X0_takes σ j i = some (0, σ)) := by
  unfold f_X0_takes f_X0_takes_0 GD
  simp only [c_even σ hc h3 hp, c_fresh σ hc h3, Option.bind_some]
  by_cases h1 : σ.1 1 i 0 = σ.1 6 j 0
  case neg => exact Or.inr ⟨fun q => h1 q.1, if_neg h1⟩
  rw [if_pos h1]
  by_cases h2 : σ.1 2 i 0 = σ.1 6 j 1
  case neg => exact Or.inr ⟨fun q => h2 q.2.1, if_neg h2⟩
  rw [if_pos h2]
  by_cases h4 : σ.1 1 i 4 = 104
  case neg => exact Or.inr ⟨fun q => h4 q.2.2.1, if_neg h4⟩
  rw [if_pos h4]
  by_cases h5 : σ.1 1 i 7 < 50
  · exact Or.inr ⟨fun q => q.2.2.2.1 h5, if_pos h5⟩
  rw [if_neg h5]
  by_cases h6 : 3 < σ.1 1 i 8
  · exact Or.inr ⟨fun q => q.2.2.2.2.1 h6, if_pos h6⟩
  rw [if_neg h6]
  by_cases h7 : 3 ≤ c ∧ σ.1 2 i 2 = 0
  · exact Or.inr ⟨fun q => q.2.2.2.2.2.1 h7, by rw [if_pos h7, if_neg one_ne]⟩
  rw [if_neg h7, if_pos rfl]
  by_cases h8 : cntF (fullF σ i) (σ.1 4 i) c = 0 ∧ orF (σ.1 5 i) c = 0
  · exact Or.inl ⟨⟨h1, h2, h4, h5, h6, h7, h8⟩, by rw [if_pos h8, if_neg one_ne]⟩
  · exact Or.inr ⟨fun q => h8 q.2.2.2.2.2.2, by rw [if_neg h8, if_pos rfl]⟩
theorem m_fits (τ : Sg) {i j : Nat} (hi8 : i < 8) (hj6 : j < 6) (hA : RA τ i) (hB : RB τ i) (hC : RC τ i) (o4 : τ.1 8 24 j = τ.1 6 j 0) (o5 : τ.1 8 25 j = τ.1 6 j 1) : ∃ c, c ≤ 60 ∧ τ.1 2 i 3 = nI c ∧ (∀ k, k < c → τ.1 3 i k = plc (τ.1 2 i 0) (τ.1 2 i 2) k) ∧ ((GD τ i j c ∧ f_X4_fits τ (nI i) (nI j) = some (1, τ)) ∨ (¬ GD τ i j c ∧ f_X4_fits τ (nI i) (nI j) = some (0, τ))) := by
  obtain ⟨c, hc, hC1, hC2, hC3, hC4⟩ := hC
  refine ⟨c, hc, hC1, fun k hk => (hC4 k hk).1, ?_⟩
  obtain ⟨a2, a5, a7, a6, a4, a9, a10, a11, a13, a14, a15, a16, a17⟩ := hA
  have h16 : τ.1 8 16 i = nI c := by rw [a16, hC1]
  unfold f_X4_fits f_X4_fits_0 f_X4_fits_43 f_X4_fits_44 GD
  simp only [h8 hi8, h6 hj6, if_false, cl8 (show i < 480 by omega), cl8 (show j < 480 by omega), m_sing τ hi8 hc h16, m_worn τ hi8 hc h16, m_worked τ hi8 hc h16, Option.bind_some, a2, a4, a10, a11, h16, o4, o5, if_true, if_neg one_ne]
  by_cases h1 : τ.1 1 i 0 = τ.1 6 j 0
  case neg => exact Or.inr ⟨fun q => h1 q.1, if_neg h1⟩
  rw [if_pos h1]
  have hlast : ¬ τ.1 1 i 4 = 104 → ¬ (τ.1 1 i 0 = τ.1 6 j 0 ∧ τ.1 2 i 0 = τ.1 6 j 1 ∧ τ.1 1 i 4 = 104 ∧ ¬ τ.1 1 i 7 < 50 ∧ ¬ 3 < τ.1 1 i 8 ∧ ¬ (3 ≤ c ∧ τ.1 2 i 2 = 0) ∧ cntF (fullF τ i) (τ.1 4 i) c = 0 ∧ orF (τ.1 5 i) c = 0) := fun q r => q r.2.2.1
  rcases Nat.eq_zero_or_pos c with h0 | hpos
  · subst h0
    have h104 : ¬ τ.1 1 i 4 = 104 := fun q => hB.2.2.2.2.2.2.2.2.2.2 q hC1
    refine Or.inr ⟨hlast h104, ?_⟩
    rw [if_pos (show nI 0 ≤ 0 by decide)]
    split <;> rfl
  · rw [if_neg (show ¬ nI c ≤ 0 from nI_nle hpos (by omega))]
    obtain ⟨e3, e8, ed, -⟩ := hC3 hpos
    rw [e3]
    by_cases h2 : τ.1 2 i 0 = τ.1 6 j 1
    case neg => exact Or.inr ⟨fun q => h2 q.2.1, if_neg h2⟩
    rw [if_pos h2]
    by_cases h4 : τ.1 1 i 4 = 104
    case neg => exact Or.inr ⟨fun q => h4 q.2.2.1, if_neg h4⟩
    rw [if_pos h4]
    by_cases h5 : τ.1 1 i 7 < 50
    · exact Or.inr ⟨fun q => q.2.2.2.1 h5, if_pos h5⟩
    rw [if_neg h5]
    by_cases h6 : 3 < τ.1 1 i 8
    · exact Or.inr ⟨fun q => q.2.2.2.2.1 h6, if_pos h6⟩
    rw [if_neg h6, e8]
    by_cases h7 : 3 ≤ c ∧ τ.1 2 i 2 = 0
    · exact Or.inr ⟨fun q => q.2.2.2.2.2.1 h7, by rw [if_pos h7, if_neg one_ne]⟩
    rw [if_neg h7, if_pos rfl]
    have efull : fullM τ i = fullF τ i := by unfold fullM fullF; rw [a17, e3, a2, ed]
    have ecnt : cntF (fullM τ i) (fun k => τ.1 8 20 (60 * i + k)) c = cntF (fullF τ i) (τ.1 4 i) c := by rw [efull]; exact cntF_cg (fun k hk => (hC4 k hk).2.1)
    have eor : orF (fun k => τ.1 8 21 (60 * i + k)) c = orF (τ.1 5 i) c := orF_cg (fun k hk => (hC4 k hk).2.2.1)
    rw [ecnt, eor]
    have hcl := cntF_le (fullF τ i) (τ.1 4 i) c
    by_cases h8 : cntF (fullF τ i) (τ.1 4 i) c = 0
    · rw [h8, if_pos (show nI 0 = 0 by decide)]
      by_cases h9 : orF (τ.1 5 i) c = 0
      · exact Or.inl ⟨⟨h1, h2, h4, h5, h6, h7, rfl, h9⟩, if_pos h9⟩
      · exact Or.inr ⟨fun q => h9 q.2.2.2.2.2.2.2, if_neg h9⟩
    · exact Or.inr ⟨fun q => h8 q.2.2.2.2.2.2.1, if_neg (fun q => h8 ((nI_eq (by omega) (by decide)).mp (q : nI _ = nI 0)))⟩
/-- the two judge a tool for an order alike -/
theorem good_eq {σ τ : Sg} {n m i j : Nat} (h : RN n m σ) (hi : i < n) (hj : j < m) (e1 : τ.1 1 i = σ.1 1 i) (e2 : τ.1 2 i = σ.1 2 i) (e3 : τ.1 3 i = σ.1 3 i) (e4 : τ.1 4 i = σ.1 4 i) (e5 : τ.1 5 i = σ.1 5 i) (e60 : τ.1 6 j 0 = σ.1 6 j 0) (e61 : τ.1 6 j 1 = σ.1 6 j 1) (e8 : ∀ f, τ.1 8 f = σ.1 8 f) :
    (f_X0_takes σ j i = some (1, σ) ∧ f_X4_fits τ (nI i) (nI j) = some (1, τ) ∧ ¬ σ.1 2 i 3 = 0) ∨ (f_X0_takes σ j i = some (0, σ) ∧ f_X4_fits τ (nI i) (nI j) = some (0, τ)) := by
  have hi8 : i < 8 := Nat.lt_of_lt_of_le hi h.1
  have hj6 : j < 6 := Nat.lt_of_lt_of_le hj h.2.1
  have hT := h.2.2.2.2.2.2.2.2.2.2.2.1 i hi
  have hO := h.2.2.2.2.2.2.2.2.2.2.2.2.1 j hj
  have hA : RA τ i := by have q := hT.1; unfold RA at q ⊢; simp only [e1, e2, e8]; exact q
  have hB : RB τ i := by have q := hT.2.1; unfold RB at q ⊢; simp only [e1, e2]; exact q
  have hC : RC τ i := hT.2.2.2.2.mv (by rw [e1]) e2 e3 e4 e5 (by rw [e8]) (by rw [e8]) (by rw [e8]) (by rw [e8])
  obtain ⟨c, hc, h3, hp, hM⟩ := m_fits τ hi8 hj6 hA hB hC (by rw [e8, e60]; exact hO.1) (by rw [e8, e61]; exact hO.2.1)
  have eG : GD τ i j c ↔ GD σ i j c := by unfold GD fullF; rw [e1, e2, e4, e5, e60, e61]
  rw [e2] at h3
  have hX := c_takes σ (j := j) hc h3 (fun k hk => by have := hp k hk; rw [e2, e3] at this; exact this)
  rcases hX with ⟨g, hX⟩ | ⟨g, hX⟩
  · rcases hM with ⟨g', hM⟩ | ⟨g', hM⟩
    · exact Or.inl ⟨hX, hM, hT.2.1.2.2.2.2.2.2.2.2.2.2 g.2.2.1⟩
    · exact absurd (eG.mpr g) g'
  · rcases hM with ⟨g', hM⟩ | ⟨g', hM⟩
    · exact absurd (eG.mp g') g
    · exact Or.inr ⟨hX, hM⟩
theorem OK_isGood {σ : Sg} {n m : Nat} (h : RN n m σ) (a b : Int32) : OK (f_L_isGood σ a b) (fun τ => f_X4_isGood τ a b) := by
  rcases t_cases h a with hd | ⟨i, hi, hi8, rfl, hg, hf, hT⟩
  · exact OK.dead h (X_isGood h hd _) (M_isGood h.n8 h.c7 hd _)
  have hm := m_none σ h.n8 h.c7 hi hg
  rcases o_cases h b with ⟨e1, e2⟩ | ⟨j, hj, hj6, rfl, hO, e1, e2⟩
  · refine OK.no h 1 ((Lq.rf σ).t 0) (τ := σ) (b := 0) ?_ ?_ (by decide)
    · unfold f_L_isGood f_X3_isGood f_X3_isGood_0
      simp only [t_live σ hi8 hf, bx_r, e1, bx_l]; rfl
    · have e2' := e2 (sv σ 7 0 0 0) h.o7
      simp only [f_X4_isGood, f_X4_isGood_0, hm, Option.bind_some, if_true, e2', if_neg one_ne]
  · have go : ∀ v : Int32, (v = 0 ∨ v = 1) → f_X0_takes σ j i = some (v, σ) → f_X4_fits (sv (sv (svo σ v.toInt64) 7 0 0 0) 7 0 0 0) (nI i) (nI j) = some (v, sv (sv (svo σ v.toInt64) 7 0 0 0) 7 0 0 0) → OK (f_L_isGood σ (nI i) (nI j)) (fun τ => f_X4_isGood τ (nI i) (nI j)) := by
      intro v hv hX hM
      refine OK.yes (n := n) (m := m) (v := v) (τ := svo σ v.toInt64) (τ2 := sv (sv (svo σ v.toInt64) 7 0 0 0) 7 0 0 0) ?_ ?_ rfl rfl (h.q ((((Lq.rf σ).o _).t 0).t 0))
      · unfold f_L_isGood f_X3_isGood f_X3_isGood_0
        simp only [t_live σ hi8 hf, bx_r, e1 σ hO.2.2.2.2.1, hX, Option.bind_some, if_pos hv]
        rcases hv with rfl | rfl <;> rfl
      · have hm := m_no (σ := σ) v.toInt64 h.n8 h.c7 hi hg
        have e2' := e2 (sv (svo σ v.toInt64) 7 0 0 0) h.o7
        simp only [f_X4_isGood, f_X4_isGood_0, hm, Option.bind_some, if_true, e2', hM]
        rcases hv with rfl | rfl <;> rfl
    have hq : ∀ v : Int64, (f_X0_takes σ j i = some (1, σ) ∧ f_X4_fits (sv (sv (svo σ v) 7 0 0 0) 7 0 0 0) (nI i) (nI j) = some (1, (sv (sv (svo σ v) 7 0 0 0) 7 0 0 0)) ∧ ¬ σ.1 2 i 3 = 0) ∨ (f_X0_takes σ j i = some (0, σ) ∧ f_X4_fits (sv (sv (svo σ v) 7 0 0 0) 7 0 0 0) (nI i) (nI j) = some (0, (sv (sv (svo σ v) 7 0 0 0) 7 0 0 0))) := fun v => good_eq h hi hj rfl rfl rfl rfl rfl rfl rfl (fun _ => rfl)
    rcases hq (1 : Int32).toInt64 with ⟨g1, g2, -⟩ | ⟨g1, -⟩
    · exact go 1 (Or.inr rfl) g1 g2
    · rcases hq (0 : Int32).toInt64 with ⟨g3, -⟩ | ⟨g3, g4⟩
      · rw [g1] at g3; cases g3
      · exact go 0 (Or.inl rfl) g3 g4
theorem OK_send {σ : Sg} {n m : Nat} (h : RN n m σ) (a b : Int32) : OK (f_L_send σ a b) (fun τ => f_X4_send τ a b) := by
  rcases t_cases h a with hd | ⟨i, hi, hi8, rfl, hg, hf, hT⟩
  · exact OK.dead h (X_send h hd _) (M_send h.n8 h.c7 hd _)
  have hm := m_none σ h.n8 h.c7 hi hg
  rcases o_cases h b with ⟨e1, e2⟩ | ⟨j, hj, hj6, rfl, hO, e1, e2⟩
  · refine OK.no h 1 ((Lq.rf σ).t 0) (τ := σ) (b := 0) ?_ ?_ (by decide)
    · unfold f_L_send f_X3_send f_X3_send_0
      simp only [t_live σ hi8 hf, bx_r, e1, bx_l]; rfl
    · have e2' := e2 (sv σ 7 0 0 0) h.o7
      simp only [f_X4_send, f_X4_send_0, hm, Option.bind_some, if_true, e2', if_neg one_ne]
  have hci := cl8 (show i < 480 by omega)
  have hcj := cl8 (show j < 480 by omega)
  obtain ⟨o4, o5, o6, o7, o8, o9, o10⟩ := hO
  have hbad : (f_X0_takes σ j i = some (0, σ) ∧ f_X4_fits (sv (sv σ 7 0 0 0) 7 0 0 0) (nI i) (nI j) = some (0, sv (sv σ 7 0 0 0) 7 0 0 0)) → OK (f_L_send σ (nI i) (nI j)) (fun τ => f_X4_send τ (nI i) (nI j)) := by
    rintro ⟨g1, g2⟩
    refine OK.no h 2 (((Lq.rf σ).t 0).t 0) (τ := σ) (b := 0) ?_ ?_ (by decide)
    · unfold f_L_send f_X3_send f_X3_send_0
      simp only [t_live σ hi8 hf, bx_r, e1 σ o8, g1, Option.bind_some, if_true, bx_l]; rfl
    · have e2' := e2 (sv σ 7 0 0 0) h.o7
      simp only [f_X4_send, f_X4_send_0, f_X4_send_41, f_X4_send_46, hm, Option.bind_some, if_true, e2', g2, w_2, if_neg one_ne]
  by_cases hfull : σ.1 6 j 3 < σ.1 6 j 2
  case neg =>
    have hq := good_eq (τ := sv (sv σ 7 0 0 0) 7 0 0 0) h hi hj rfl rfl rfl rfl rfl rfl rfl (fun _ => rfl)
    rcases hq with ⟨g1, g2, -⟩ | hq
    · have hee : σ.1 6 j 3 = σ.1 6 j 2 := by grind
      refine OK.no h 2 (((Lq.rf σ).t 0).t 0) (τ := σ) (b := 0) ?_ ?_ (by decide)
      · unfold f_L_send f_X3_send f_X3_send_0
        simp only [t_live σ hi8 hf, bx_r, e1 σ o8, g1, Option.bind_some, if_neg one_ne, if_neg hfull, bx_l]; rfl
      · have e2' := e2 (sv σ 7 0 0 0) h.o7
        simp only [f_X4_send, f_X4_send_0, f_X4_send_41, f_X4_send_46, hm, Option.bind_some, if_true, e2', g2, w_2, if_neg one_ne, h6 hj6, hcj, if_false, t8, o6, o7, hee]
    · exact hbad hq
  · have hq := good_eq (τ := sv (sv (svo (sv (sv σ 10 0 i 0) 6 j 3 (σ.1 6 j 3 + 1)) (σ.1 6 j 3 + 1).toInt64) 7 0 0 0) 7 0 0 0) h hi hj rfl rfl rfl rfl rfl (by simp [sv_rd, svo_1]) (by simp [sv_rd, svo_1]) (fun _ => rfl)
    rcases hq with ⟨g1, g2, gc⟩ | ⟨g1, -⟩
    · have hne : ¬ σ.1 6 j 3 = σ.1 6 j 2 := by grind
      refine OK.yes (n := n) (m := m) (v := σ.1 6 j 3 + 1) (τ := svo (sv (sv σ 10 0 i 0) 6 j 3 (σ.1 6 j 3 + 1)) (σ.1 6 j 3 + 1).toInt64) (τ2 := sv (sv (sv (sv (sv (svo (sv (sv σ 10 0 i 0) 6 j 3 (σ.1 6 j 3 + 1)) (σ.1 6 j 3 + 1).toInt64) 7 0 0 0) 7 0 0 0) 7 0 0 0) 8 19 i 1) 8 27 j (σ.1 6 j 3 + 1)) ?_ ?_ rfl rfl ?_
      · unfold f_L_send f_X3_send f_X3_send_0
        simp only [t_live σ hi8 hf, bx_r, e1 σ o8, g1, Option.bind_some, if_neg one_ne, if_pos hfull, h8 hi8, hci, if_false]
        simp [sv_rd]
      · have hm := m_none (svo (sv (sv σ 10 0 i 0) 6 j 3 (σ.1 6 j 3 + 1)) (σ.1 6 j 3 + 1).toInt64) h.n8 h.c7 hi hg
        have e2' := e2 (sv (svo (sv (sv σ 10 0 i 0) 6 j 3 (σ.1 6 j 3 + 1)) (σ.1 6 j 3 + 1).toInt64) 7 0 0 0) h.o7
        simp only [f_X4_send, f_X4_send_0, f_X4_send_41, f_X4_send_46, hm, Option.bind_some, if_true, e2', g2, w_0, if_neg one_ne, h6 hj6, hcj, h8 hi8, hci, if_false, t8, svo_1, vb1]
        simp [sv_rd, o6, o7, hne]
      · obtain ⟨g1, g2, g3, g4, g5, g6, g7, g8, g9, g10, g11, g12, g13, g14, g15⟩ := h
        refine ⟨g1, g2, g3, g4, g5, g6, g7, g8, g9, fun j' hj' => ?_, g11, fun j' hj' => ?_, fun j' hj' => ?_, fun j' hj' hj8 f hf1 hf2 => ?_, fun j' hj' hj6' => ?_⟩
        · simp [sv_rd, svo_1]; exact fun _ => g10 j' hj'
        · by_cases hji : j' = i
          · subst hji
            obtain ⟨hA, hB, hW, hG, hC⟩ := hT
            refine ⟨?_, hB, ?_, Or.inr ⟨by simp [sv_rd], by simp [sv_rd, svo_1]⟩, hC.mv rfl rfl rfl rfl rfl rfl rfl rfl rfl⟩
            · unfold RA at hA ⊢; simp [sv_rd, svo_1]; exact hA
            · unfold RW at hW ⊢; simp [sv_rd, svo_1]; exact hW
          · exact (g12 j' hj').mv (fun k k1 k2 p => by simp [sv_rd, svo_1, show ¬ k = 6 by omega, show ¬ k = 7 by omega, show ¬ k = 8 by omega, show ¬ k = 10 by omega]) (fun f hf => by simp [sv_rd, svo_1, hji, show ¬ f = 27 by omega]) (fun k hk => ⟨rfl, rfl⟩) (by simp [sv_rd, svo_1, hji])
        · have hO := g13 j' hj'
          unfold RO at hO ⊢
          by_cases hjj : j' = j
          · subst hjj
            simp [sv_rd, svo_1]
            grind
          · simp [sv_rd, svo_1, hjj]
            exact hO
        · simp [sv_rd, svo_1, show ¬ j' = i by omega, show ¬ f = 27 by omega]
          exact g14 j' hj' hj8 f hf1 hf2
        · simp [sv_rd, svo_1, show ¬ j' = j by omega]
          exact g15 j' hj' hj6'
    · have hq := good_eq (τ := sv (sv σ 7 0 0 0) 7 0 0 0) h hi hj rfl rfl rfl rfl rfl rfl rfl (fun _ => rfl)
      rcases hq with ⟨g3, -⟩ | hq
      · rw [g1] at g3; cases g3
      · exact hbad hq
theorem Sg_ext {σ τ : Sg} (h : ∀ k i p, σ.1 k i p = τ.1 k i p) (h2 : σ.2 = τ.2) : σ = τ := Prod.ext (funext fun k => funext fun i => funext fun p => h k i p) h2
/-- F from lo up to hi, g elsewhere -/
def stg (F g : Nat → Int32) (lo hi : Nat) : Nat → Int32 := fun p => if lo ≤ p ∧ p < hi then F p else g p
theorem stg_in {F g : Nat → Int32} {lo hi p : Nat} (h1 : lo ≤ p) (h2 : p < hi) : stg F g lo hi p = F p := if_pos ⟨h1, h2⟩
theorem stg_out {F g : Nat → Int32} {lo hi p : Nat} (h : p < lo ∨ hi ≤ p) : stg F g lo hi p = g p := if_neg (by omega)
theorem stg_at (F g : Nat → Int32) (lo hi : Nat) : stg F g lo hi hi = g hi := stg_out (Or.inr (Nat.le_refl _))
theorem stg_e (F g : Nat → Int32) (lo : Nat) : stg F g lo lo = g := funext fun p => stg_out (by omega)
theorem stg_up {F g : Nat → Int32} {lo hi : Nat} (h : lo ≤ hi) {v : Int32} (hv : v = F hi) : upd (stg F g lo hi) hi v = stg F g lo (hi + 1) := funext fun p => by
  by_cases hp : p = hi
  · subst hp; rw [pk_us, stg_in h (by omega), hv]
  · rw [pk_un hp]
    by_cases h1 : lo ≤ p ∧ p < hi
    · rw [stg_in h1.1 h1.2, stg_in h1.1 (by omega)]
    · rw [stg_out (by omega), stg_out (by omega)]
theorem stg_sk {F g : Nat → Int32} {lo hi : Nat} (h : lo ≤ hi) (hv : F hi = g hi) : stg F g lo (hi + 1) = stg F g lo hi := funext fun p => by
  by_cases hp : p = hi
  · subst hp; rw [stg_in h (by omega), stg_at, hv]
  · by_cases h1 : lo ≤ p ∧ p < hi
    · rw [stg_in h1.1 h1.2, stg_in h1.1 (by omega)]
    · rw [stg_out (by omega), stg_out (by omega)]
theorem sv_sr (σ : Sg) (k i p : Nat) (g : Nat → Int32) (v : Int32) : sv (sr σ k i g) k i p v = sr σ k i (upd g p v) := Sg_ext (fun k' i' p' => by
  rw [sv_rd, sr_rd, sr_rd]
  by_cases h : k' = k ∧ i' = i
  · rw [if_pos h, if_pos h]
    by_cases hp : p' = p
    · subst hp; rw [if_pos ⟨h.1, h.2, rfl⟩, pk_us]
    · rw [if_neg (fun q => hp q.2.2), pk_un hp]
  · rw [if_neg h, if_neg h, if_neg (fun q => h ⟨q.1, q.2.1⟩)]) rfl
theorem sr_id (σ : Sg) (k i : Nat) : sr σ k i (σ.1 k i) = σ := Sg_ext (fun k' i' p' => by
  rw [sr_rd]
  by_cases h : k' = k ∧ i' = i
  · rw [if_pos h, h.1, h.2]
  · rw [if_neg h]) rfl
theorem Lst {i c f : Nat} {σ τ : Sg} (h : Lc i σ τ) (hf : f = 20 ∨ f = 21) (F g : Nat → Int32) (hg : ∀ p, g p = τ.1 8 f p) (hc : c ≤ 60) : Lc i σ (sr τ 8 f (stg F g (60 * i) (60 * i + c))) := fun k1 i1 p1 h1 => by
  rw [sr_rd]
  by_cases hk : k1 = 8 ∧ i1 = f
  · obtain ⟨rfl, rfl⟩ := hk
    rw [if_pos ⟨rfl, rfl⟩, stg_out (by unfold own at h1; omega), hg]
    exact h _ _ _ h1
  · rw [if_neg hk]; exact h _ _ _ h1
def lowF (x : Int32) : Int32 := if 0 < x - 1 then x - 1 else 0
def mxF (hs : Nat → Int32) : Nat → Int32
  | 0 => 0
  | k + 1 => if mxF hs k < hs k then hs k else mxF hs k
theorem mxF_cg {hs hs' : Nat → Int32} {c : Nat} (h : ∀ k, k < c → hs k = hs' k) : mxF hs c = mxF hs' c := by
  induction c with
  | zero => rfl
  | succ c ih =>
    show (if mxF hs c < hs c then hs c else mxF hs c) = if mxF hs' c < hs' c then hs' c else mxF hs' c
    rw [ih (fun k hk => h k (by omega)), h c (by omega)]
theorem lower_loop (σ : Sg) {i c : Nat} (hc : c ≤ 60) (h3 : σ.1 2 i 3 = nI c) (hs : Nat → Int32) : ∀ (fu k : Nat), k ≤ c → c - k < fu → f_X1_lowerAll_7 fu (sr σ 4 i (stg (fun p => lowF (hs p)) hs 0 k)) i (nI k) = some ((), sr σ 4 i (stg (fun p => lowF (hs p)) hs 0 c)) := by
  intro fu
  induction fu with
  | zero => intro k _ h; omega
  | succ fu ih =>
    intro k hk hf
    show g_X1_lowerAll_7 (f_X1_lowerAll_7 fu) _ i (nI k) = _
    unfold g_X1_lowerAll_7
    have e3 : (sr σ 4 i (stg (fun p => lowF (hs p)) hs 0 k)).1 2 i 3 = nI c := h3
    by_cases hkc : k = c
    · subst hkc
      rw [e3, if_pos (Int32.le_refl _)]
    · rw [e3, if_neg (nI_ge (show k < c by omega) (by omega))]
      simp only [h60 (show k < 60 by omega), if_false, cl8 (show k < 480 by omega), nI_1, sr_rd, and_self, if_true, stg_at]
      rw [sv_sr, stg_up (Nat.zero_le _) (show _ = lowF (hs k) from rfl)]
      exact ih (k + 1) (by omega) (by omega)
theorem high_loop (σ : Sg) {i c : Nat} (hc : c ≤ 60) (h3 : σ.1 2 i 3 = nI c) : ∀ (fu k : Nat), k ≤ c → c - k < fu → f_X1_highest_4 fu σ i (mxF (σ.1 4 i) k) (nI k) = some (mxF (σ.1 4 i) c, σ) := by
  intro fu
  induction fu with
  | zero => intro k _ h; omega
  | succ fu ih =>
    intro k hk hf
    show g_X1_highest_4 (f_X1_highest_4 fu) σ i (mxF (σ.1 4 i) k) (nI k) = _
    unfold g_X1_highest_4
    by_cases hkc : k = c
    · subst hkc
      rw [h3, if_pos (Int32.le_refl _)]
    · rw [h3, if_neg (nI_ge (show k < c by omega) (by omega))]
      simp only [h60 (show k < 60 by omega), if_false, cl8 (show k < 480 by omega), nI_1]
      exact ih (k + 1) (by omega) (by omega)
theorem c_high (σ : Sg) {i c : Nat} (hc : c ≤ 60) (h3 : σ.1 2 i 3 = nI c) : f_X1_highest σ i = some (mxF (σ.1 4 i) c, σ) := high_loop σ hc h3 70 0 (Nat.zero_le _) (by omega)
theorem up_loop (τ : Sg) {i c : Nat} (hi8 : i < 8) (hc : c ≤ 60) (h3 : τ.1 8 16 i = nI c) (hs : Nat → Int32) : ∀ (fu k : Nat), k ≤ c → c - k < fu →
    f_X4_upcut_78 fu (sr τ 8 20 (stg (fun p => lowF (hs p)) hs (60 * i) (60 * i + k))) (nI i) (mxF (fun k => lowF (hs (60 * i + k))) k) (nI (60 * i + k)) = some (mxF (fun k => lowF (hs (60 * i + k))) c, sr τ 8 20 (stg (fun p => lowF (hs p)) hs (60 * i) (60 * i + c))) := by
  intro fu
  induction fu with
  | zero => intro k _ h; omega
  | succ fu ih =>
    intro k hk hf
    show g_X4_upcut_78 (f_X4_upcut_78 fu) _ (nI i) _ _ = _
    unfold g_X4_upcut_78
    have e3 : (sr τ 8 20 (stg (fun p => lowF (hs p)) hs (60 * i) (60 * i + k))).1 8 16 i = nI c := h3
    simp only [h8 hi8, if_false, cl8 (show i < 480 by omega), e3, n60a]
    by_cases hkc : k = c
    · subst hkc
      rw [if_pos (Int32.le_refl _)]
    · rw [if_neg (nI_ge (show 60 * i + k < 60 * i + c by omega) (by omega))]
      simp only [h480 (show 60 * i + k < 480 by omega), if_false, cl8 (show 60 * i + k < 480 by omega), m_most, max_eq, Option.bind_some, nI_1, sr_rd, and_self, if_true, stg_at]
      rw [sv_sr, stg_up (Nat.le_add_right _ _) (show _ = lowF (hs (60 * i + k)) from rfl)]
      simp only [sr_rd, and_self, if_true]
      rw [stg_in (Nat.le_add_right _ _) (by omega)]
      exact ih (k + 1) (by omega) (by omega)
theorem lowF_r {x : Int32} (h1 : 0 ≤ x) (h2 : x ≤ 9) : 0 ≤ lowF x ∧ lowF x ≤ 9 := by unfold lowF; split <;> grind
theorem OK_upcut {σ : Sg} {n m : Nat} (h : RN n m σ) (a : Int32) : OK (f_L_upcut σ a) (fun τ => f_X4_upcut τ a) := by
  rcases t_cases h a with hd | ⟨i, hi, hi8, rfl, hg, hf, hA, hB, hW, hG, c, hc, hC1, hC2, hC3, hC4⟩
  · exact OK.dead h (X_upcut h hd) (M_upcut h.n8 h.c7 hd)
  have hm := m_none σ h.n8 h.c7 hi hg
  have hn := cl8 (show i < 480 by omega)
  have hA' := hA
  obtain ⟨a2, a5, a7, a6, a4, a9, a10, a11, a13, a14, a15, a16, a17⟩ := hA'
  have hbad : ∀ (hL : f_L_upcut σ (nI i) = some (2, σ)) (hM : f_X4_upcut σ (nI i) = some (0, sv (sv σ 7 0 0 0) 7 0 0 2)), OK (f_L_upcut σ (nI i)) (fun τ => f_X4_upcut τ (nI i)) := fun hL hM => OK.no h 2 ((Lq.rf σ).t 0) (τ := σ) (b := 0) hL hM (by decide)
  by_cases q0 : σ.1 1 i 0 = 115
  · refine hbad ?_ ?_
    · unfold f_L_upcut f_X3_upcut f_X3_upcut_0
      simp only [t_live σ hi8 hf, bx_r, bx_l, if_pos q0]; rfl
    · simp only [f_X4_upcut, f_X4_upcut_0, f_X4_upcut_51, f_X4_upcut_56, hm, Option.bind_some, if_true, w_2, if_neg one_ne, hn, h8 hi8, if_false, t8, a2, if_pos q0]
  by_cases q1 : σ.1 1 i 4 = 115
  case neg =>
    refine hbad ?_ ?_
    · unfold f_L_upcut f_X3_upcut f_X3_upcut_0
      simp only [t_live σ hi8 hf, bx_r, bx_l, if_neg q0, if_neg q1]; rfl
    · simp only [f_X4_upcut, f_X4_upcut_0, f_X4_upcut_51, f_X4_upcut_56, hm, Option.bind_some, if_true, w_2, if_neg one_ne, hn, h8 hi8, if_false, t8, a2, if_neg q0, a4, if_neg q1]
  by_cases q2 : σ.1 2 i 3 = 0
  · refine hbad ?_ ?_
    · unfold f_L_upcut f_X3_upcut f_X3_upcut_0
      simp only [t_live σ hi8 hf, bx_r, bx_l, if_neg q0, if_pos q1, if_pos q2]; rfl
    · simp only [f_X4_upcut, f_X4_upcut_0, f_X4_upcut_51, f_X4_upcut_56, hm, Option.bind_some, if_true, w_2, if_neg one_ne, hn, h8 hi8, if_false, t8, a2, if_neg q0, a4, if_pos q1, a16, if_pos q2]
  by_cases q3 : σ.1 2 i 4 = 0
  case neg =>
    refine hbad ?_ ?_
    · unfold f_L_upcut f_X3_upcut f_X3_upcut_0
      simp only [t_live σ hi8 hf, bx_r, bx_l, if_neg q0, if_pos q1, if_neg q2, if_neg q3]; rfl
    · simp only [f_X4_upcut, f_X4_upcut_0, f_X4_upcut_51, f_X4_upcut_56, hm, Option.bind_some, if_true, w_2, if_neg one_ne, hn, h8 hi8, if_false, t8, a2, if_neg q0, a4, if_pos q1, a16, if_neg q2, a17, if_neg q3]
  have hlow := lower_loop (sv σ 2 i 4 1) hc (show (sv σ 2 i 4 1).1 2 i 3 = nI c by simp [sv_rd]; exact hC1) (σ.1 4 i) 70 0 (Nat.zero_le _) (by omega)
  rw [stg_e, show sr (sv σ 2 i 4 1) 4 i (σ.1 4 i) = sv σ 2 i 4 1 from Sg_ext (fun k' i' p' => by
    rw [sr_rd]
    by_cases hk : k' = 4 ∧ i' = i
    · rw [if_pos hk, sv_rd, if_neg (by omega), hk.1, hk.2]
    · rw [if_neg hk]) rfl, nI_0] at hlow
  have hhi := c_high (sr (sv σ 2 i 4 1) 4 i (stg (fun p => lowF (σ.1 4 i p)) (σ.1 4 i) 0 c)) (i := i) hc (show (sv σ 2 i 4 1).1 2 i 3 = nI c by simp [sv_rd]; exact hC1)
  rw [show (sr (sv σ 2 i 4 1) 4 i (stg (fun p => lowF (σ.1 4 i p)) (σ.1 4 i) 0 c)).1 4 i = stg (fun p => lowF (σ.1 4 i p)) (σ.1 4 i) 0 c from sr_at _ _ _ _] at hhi
  have hmx : mxF (stg (fun p => lowF (σ.1 4 i p)) (σ.1 4 i) 0 c) c = mxF (fun k => lowF (σ.1 8 20 (60 * i + k))) c := mxF_cg (fun k hk => by rw [stg_in (Nat.zero_le _) hk, (hC4 k hk).2.1])
  refine OK.mut h hi (v := mxF (stg (fun p => lowF (σ.1 4 i p)) (σ.1 4 i) 0 c) c) (τ := svo (sr (sv σ 2 i 4 1) 4 i (stg (fun p => lowF (σ.1 4 i p)) (σ.1 4 i) 0 c)) (mxF (stg (fun p => lowF (σ.1 4 i p)) (σ.1 4 i) 0 c) c).toInt64)
    (τ2 := sr (sv (sv (sv (svo (sr (sv σ 2 i 4 1) 4 i (stg (fun p => lowF (σ.1 4 i p)) (σ.1 4 i) 0 c)) (mxF (stg (fun p => lowF (σ.1 4 i p)) (σ.1 4 i) 0 c) c).toInt64) 7 0 0 0) 7 0 0 0) 8 17 i 1) 8 20 (stg (fun p => lowF (σ.1 8 20 p)) (σ.1 8 20) (60 * i) (60 * i + c))) ?_ ?_ rfl rfl rfl ?_ ?_
  · unfold f_L_upcut f_X3_upcut f_X3_upcut_0 f_X1_lowerAll f_X1_lowerAll_0
    simp only [t_live σ hi8 hf, bx_r, bx_l, if_neg q0, if_pos q1, if_neg q2, if_pos q3, hlow, Option.bind_some, hhi]
  · generalize hτ : svo (sr (sv σ 2 i 4 1) 4 i (stg (fun p => lowF (σ.1 4 i p)) (σ.1 4 i) 0 c)) (mxF (stg (fun p => lowF (σ.1 4 i p)) (σ.1 4 i) 0 c) c).toInt64 = τ
    have r7 : τ.1 7 0 1 = nI n := by rw [← hτ]; exact h.c7
    have r8 : ∀ f p, τ.1 8 f p = σ.1 8 f p := fun f p => by rw [← hτ]; rfl
    have hm := m_none τ h.n8 r7 hi (by rw [r8]; exact hg)
    have hup := up_loop (sv (sv (sv τ 7 0 0 0) 7 0 0 0) 8 17 i 1) hi8 hc (show (sv (sv (sv τ 7 0 0 0) 7 0 0 0) 8 17 i 1).1 8 16 i = nI c by simp [sv_rd]; rw [r8, a16, hC1]) (σ.1 8 20) 70 0 (Nat.zero_le _) (by omega)
    rw [Nat.add_zero, stg_e, show sr (sv (sv (sv τ 7 0 0 0) 7 0 0 0) 8 17 i 1) 8 20 (σ.1 8 20) = sv (sv (sv τ 7 0 0 0) 7 0 0 0) 8 17 i 1 from Sg_ext (fun k' i' p' => by
      rw [sr_rd]
      by_cases hk : k' = 8 ∧ i' = 20
      · rw [if_pos hk, hk.1, hk.2]; simp [sv_rd, r8]
      · rw [if_neg hk]) rfl] at hup
    simp only [f_X4_upcut, f_X4_upcut_0, f_X4_upcut_51, f_X4_upcut_56, hm, Option.bind_some, if_true, w_0, if_neg one_ne, hn, h8 hi8, if_false, t8, r8, a2, if_neg q0, a4, if_pos q1, a16, if_neg q2, a17, if_pos q3, vb1, n60, hmx]
    exact hup
  · exact Lst (((((((Lc.rf i σ).sv _ _ _ _ (by unfold own; omega)).sr _ _ _ (by intro p; unfold own; omega)).o _).sv _ _ _ _ (by unfold own; omega)).sv _ _ _ _ (by unfold own; omega)).sv _ _ _ _ (by unfold own; omega)) (Or.inl rfl) _ _ (fun p => by simp [sv_rd, svo_1, sr_rd]) hc
  · refine ⟨?_, ?_, ?_, ?_, c, hc, ?_, ?_, ?_, fun k hk => ?_⟩
    · unfold RA at hA ⊢
      simp [sv_rd, svo_1, sr_rd, a2, a5, a7, a6, a4, a9, a10, a11, a13, a14, a15, a16]
    · unfold RB at hB ⊢
      simp [sv_rd, svo_1, sr_rd]
      grind
    · unfold RW at hW ⊢
      simp [sv_rd, svo_1, sr_rd]; exact hW
    · unfold RG at hG ⊢
      simp [sv_rd, svo_1, sr_rd]; exact hG
    · simp [sv_rd, svo_1, sr_rd]; exact hC1
    · intro q; exact absurd (by rw [hC1, q]; decide) q2
    · simp [sv_rd, svo_1, sr_rd]; exact hC3
    · have hk4 := hC4 k hk
      unfold RK at hk4 ⊢
      simp [sv_rd, svo_1, sr_rd]
      rw [stg_in (Nat.zero_le _) hk, stg_in (by omega) (by omega), hk4.2.1]
      exact ⟨hk4.1, rfl, hk4.2.2.1, lowF_r hk4.2.2.2.1.1 hk4.2.2.2.1.2, hk4.2.2.2.2⟩
/-- how many teeth a cut makes -/
def cutN (len nm sp : Int32) : Nat → Nat → Nat
  | 0, k => k
  | fu + 1, k => if 60 ≤ k ∨ len ≤ plc nm sp k then k else cutN len nm sp fu (k + 1)
theorem cutN_le (len nm sp : Int32) : ∀ (fu k : Nat), k ≤ 60 → cutN len nm sp fu k ≤ 60 := by
  intro fu
  induction fu with
  | zero => intro k hk; exact hk
  | succ fu ih =>
    intro k hk
    show (if 60 ≤ k ∨ len ≤ plc nm sp k then k else cutN len nm sp fu (k + 1)) ≤ 60
    split
    · exact hk
    · exact ih (k + 1) (by omega)
theorem cutN_ge (len nm sp : Int32) : ∀ (fu k : Nat), k ≤ cutN len nm sp fu k := by
  intro fu
  induction fu with
  | zero => intro k; exact Nat.le_refl _
  | succ fu ih =>
    intro k
    show k ≤ (if 60 ≤ k ∨ len ≤ plc nm sp k then k else cutN len nm sp fu (k + 1))
    split
    · exact Nat.le_refl _
    · exact Nat.le_trans (Nat.le_succ k) (ih (k + 1))
theorem cutN_pos {len nm sp : Int32} (h : 50 ≤ len) (fu : Nat) : 0 < cutN len nm sp (fu + 1) 0 := by
  show 0 < (if 60 ≤ 0 ∨ len ≤ plc nm sp 0 then 0 else cutN len nm sp fu 1)
  rw [if_neg (show ¬ (60 ≤ 0 ∨ len ≤ plc nm sp 0) from fun q => q.elim (by omega) (fun q => by have : len ≤ 0 := q; grind))]
  exact cutN_ge len nm sp fu 1
/-- the class's state with k teeth made -/
def fiS (σ : Sg) (i : Nat) (dp : Int32) (k : Nat) : Sg := sr (sr (sr (sv σ 2 i 3 (nI k)) 3 i (stg (plc (σ.1 2 i 0) (σ.1 2 i 2)) (σ.1 3 i) 0 k)) 4 i (stg (fun _ => dp) (σ.1 4 i) 0 k)) 5 i (stg (fun _ => 0) (σ.1 5 i) 0 k)
theorem fiS_rd (σ : Sg) (i : Nat) (dp : Int32) (k k' i' p' : Nat) : (fiS σ i dp k).1 k' i' p' = if k' = 5 ∧ i' = i then stg (fun _ => 0) (σ.1 5 i) 0 k p' else if k' = 4 ∧ i' = i then stg (fun _ => dp) (σ.1 4 i) 0 k p' else if k' = 3 ∧ i' = i then stg (plc (σ.1 2 i 0) (σ.1 2 i 2)) (σ.1 3 i) 0 k p' else if k' = 2 ∧ i' = i ∧ p' = 3 then nI k else σ.1 k' i' p' := by
  unfold fiS
  rw [sr_rd, sr_rd, sr_rd, sv_rd]
theorem fiS_up (σ : Sg) (i : Nat) (dp : Int32) (k : Nat) : sv (sv (sv (sv (fiS σ i dp k) 3 i k (plc (σ.1 2 i 0) (σ.1 2 i 2) k)) 4 i k dp) 5 i k 0) 2 i 3 (nI (k + 1)) = fiS σ i dp (k + 1) := Sg_ext (fun k' i' p' => by
  rw [sv_rd, sv_rd, sv_rd, sv_rd, fiS_rd, fiS_rd]
  by_cases hi : i' = i
  · subst hi
    by_cases h5 : k' = 5
    · subst h5
      by_cases hp : p' = k
      · subst hp; simp [stg_in (Nat.zero_le p') (Nat.lt_succ_self p')]
      · simp [hp]
        by_cases hl : p' < k
        · rw [stg_in (Nat.zero_le _) hl, stg_in (Nat.zero_le _) (by omega)]
        · rw [stg_out (by omega), stg_out (by omega)]
    by_cases h4 : k' = 4
    · subst h4
      by_cases hp : p' = k
      · subst hp; simp [stg_in (Nat.zero_le p') (Nat.lt_succ_self p')]
      · simp [hp]
        by_cases hl : p' < k
        · rw [stg_in (Nat.zero_le _) hl, stg_in (Nat.zero_le _) (by omega)]
        · rw [stg_out (by omega), stg_out (by omega)]
    by_cases h3 : k' = 3
    · subst h3
      by_cases hp : p' = k
      · subst hp; simp [stg_in (Nat.zero_le p') (Nat.lt_succ_self p')]
      · simp [hp]
        by_cases hl : p' < k
        · rw [stg_in (Nat.zero_le _) hl, stg_in (Nat.zero_le _) (by omega)]
        · rw [stg_out (by omega), stg_out (by omega)]
    by_cases h2 : k' = 2 ∧ p' = 3
    · obtain ⟨rfl, rfl⟩ := h2; simp
    · simp [h5, h4, h3]
      simp only [if_neg h2]
  · simp [hi]) rfl
theorem fill_loop (σ : Sg) {i : Nat} (len : Int32) : ∀ (fu k : Nat), k ≤ 60 → 60 - k < fu → f_X1_fill_31 fu (fiS σ i (σ.1 2 i 1) k) i len (plc (σ.1 2 i 0) (σ.1 2 i 2) k) (nI k) = some ((), fiS σ i (σ.1 2 i 1) (cutN len (σ.1 2 i 0) (σ.1 2 i 2) fu k)) := by
  intro fu
  induction fu with
  | zero => intro k _ h; omega
  | succ fu ih =>
    intro k hk hf
    show g_X1_fill_31 (f_X1_fill_31 fu) (fiS σ i (σ.1 2 i 1) k) i len (plc (σ.1 2 i 0) (σ.1 2 i 2) k) (nI k) = some ((), fiS σ i (σ.1 2 i 1) (if 60 ≤ k ∨ len ≤ plc (σ.1 2 i 0) (σ.1 2 i 2) k then k else cutN len (σ.1 2 i 0) (σ.1 2 i 2) fu (k + 1)))
    unfold g_X1_fill_31
    by_cases hq60 : 60 ≤ k
    · rw [if_pos (show (60 : Int32) ≤ nI k from nI_le (a := 60) hq60 (by omega)), if_pos (Or.inl hq60)]
    · rw [if_neg (show ¬ (60 : Int32) ≤ nI k from nI_ge (b := 60) (by omega) (by decide))]
      by_cases hl : len ≤ plc (σ.1 2 i 0) (σ.1 2 i 2) k
      · rw [if_pos hl, if_pos (Or.inr hl)]
      · rw [if_neg hl, if_neg (show ¬ (60 ≤ k ∨ len ≤ plc (σ.1 2 i 0) (σ.1 2 i 2) k) from fun q => q.elim hq60 hl)]
        have r1 : (fiS σ i (σ.1 2 i 1) k).1 2 i 1 = σ.1 2 i 1 := by rw [fiS_rd]; simp
        simp only [h60 (show k < 60 by omega), if_false, cl8 (show k < 480 by omega), nI_1, r1]
        rw [fiS_up, c_step _ _ (show k < 60 by omega)]
        simp only [Option.bind_some]
        have r0 : (fiS σ i (σ.1 2 i 1) (k + 1)).1 2 i 0 = σ.1 2 i 0 := by rw [fiS_rd]; simp
        have r2 : (fiS σ i (σ.1 2 i 1) (k + 1)).1 2 i 2 = σ.1 2 i 2 := by rw [fiS_rd]; simp
        rw [r0, r2]
        exact ih (k + 1) (by omega) (by omega)
/-- the reference's state with k teeth made -/
def cuS (τ : Sg) (i : Nat) (dp : Int32) (k : Nat) : Sg := sr (sr (sv τ 8 16 i (nI k)) 8 20 (stg (fun _ => dp) (τ.1 8 20) (60 * i) (60 * i + k))) 8 21 (stg (fun _ => 0) (τ.1 8 21) (60 * i) (60 * i + k))
theorem cuS_rd (τ : Sg) (i : Nat) (dp : Int32) (k k' i' p' : Nat) : (cuS τ i dp k).1 k' i' p' = if k' = 8 ∧ i' = 21 then stg (fun _ => 0) (τ.1 8 21) (60 * i) (60 * i + k) p' else if k' = 8 ∧ i' = 20 then stg (fun _ => dp) (τ.1 8 20) (60 * i) (60 * i + k) p' else if k' = 8 ∧ i' = 16 ∧ p' = i then nI k else τ.1 k' i' p' := by
  unfold cuS
  rw [sr_rd, sr_rd, sv_rd]
theorem cuS_up (τ : Sg) (i : Nat) (dp : Int32) (k : Nat) : sv (sv (sv (cuS τ i dp k) 8 20 (60 * i + k) dp) 8 21 (60 * i + k) 0) 8 16 i (nI (k + 1)) = cuS τ i dp (k + 1) := Sg_ext (fun k' i' p' => by
  rw [sv_rd, sv_rd, sv_rd, cuS_rd, cuS_rd]
  by_cases hk8 : k' = 8
  · subst hk8
    by_cases h21 : i' = 21
    · subst h21
      by_cases hp : p' = 60 * i + k
      · subst hp; simp; rw [stg_in (by omega) (by omega)]
      · simp [hp]
        by_cases hl : 60 * i ≤ p' ∧ p' < 60 * i + k
        · rw [stg_in hl.1 hl.2, stg_in hl.1 (by omega)]
        · rw [stg_out (by omega), stg_out (by omega)]
    by_cases h20 : i' = 20
    · subst h20
      by_cases hp : p' = 60 * i + k
      · subst hp; simp; rw [stg_in (by omega) (by omega)]
      · simp [hp]
        by_cases hl : 60 * i ≤ p' ∧ p' < 60 * i + k
        · rw [stg_in hl.1 hl.2, stg_in hl.1 (by omega)]
        · rw [stg_out (by omega), stg_out (by omega)]
    by_cases h16 : i' = 16 ∧ p' = i
    · obtain ⟨rfl, rfl⟩ := h16; simp
    · simp [h21, h20]
      simp only [if_neg h16]
  · simp [hk8]) rfl
theorem cut_loop (τ : Sg) {i : Nat} (hi8 : i < 8) : ∀ (fu k : Nat), k ≤ 60 → 60 - k < fu → f_X4_cut_100 fu (cuS τ i (depthF (τ.1 8 3 i) (τ.1 8 2 i)) k) (nI i) = some (nI (cutN (τ.1 8 5 i) (τ.1 8 3 i) (τ.1 8 8 i) fu k), cuS τ i (depthF (τ.1 8 3 i) (τ.1 8 2 i)) (cutN (τ.1 8 5 i) (τ.1 8 3 i) (τ.1 8 8 i) fu k)) := by
  intro fu
  induction fu with
  | zero => intro k _ h; omega
  | succ fu ih =>
    intro k hk hf
    show g_X4_cut_100 (f_X4_cut_100 fu) (cuS τ i (depthF (τ.1 8 3 i) (τ.1 8 2 i)) k) (nI i) = some (nI (if 60 ≤ k ∨ τ.1 8 5 i ≤ plc (τ.1 8 3 i) (τ.1 8 8 i) k then k else cutN (τ.1 8 5 i) (τ.1 8 3 i) (τ.1 8 8 i) fu (k + 1)), cuS τ i (depthF (τ.1 8 3 i) (τ.1 8 2 i)) (if 60 ≤ k ∨ τ.1 8 5 i ≤ plc (τ.1 8 3 i) (τ.1 8 8 i) k then k else cutN (τ.1 8 5 i) (τ.1 8 3 i) (τ.1 8 8 i) fu (k + 1)))
    generalize hdp : depthF (τ.1 8 3 i) (τ.1 8 2 i) = dp
    have r16 : ∀ k, (cuS τ i dp k).1 8 16 i = nI k := fun k => by rw [cuS_rd]; simp
    have r3 : (cuS τ i dp k).1 8 3 i = τ.1 8 3 i := by rw [cuS_rd]; simp
    have r2 : (cuS τ i dp k).1 8 2 i = τ.1 8 2 i := by rw [cuS_rd]; simp
    have r5 : (cuS τ i dp k).1 8 5 i = τ.1 8 5 i := by rw [cuS_rd]; simp
    have r8 : (cuS τ i dp k).1 8 8 i = τ.1 8 8 i := by rw [cuS_rd]; simp
    unfold g_X4_cut_100 f_X4_cut_182
    simp only [h8 hi8, if_false, cl8 (show i < 480 by omega), r16]
    by_cases hq60 : 60 ≤ k
    · rw [if_pos (show (60 : Int32) ≤ nI k from nI_le (a := 60) hq60 (by omega)), if_pos (Or.inl hq60)]
    · rw [if_neg (show ¬ (60 : Int32) ≤ nI k from nI_ge (b := 60) (by omega) (by decide)), m_placeOf _ hi8 hk]
      simp only [Option.bind_some, r3, r8, r5]
      by_cases hl : τ.1 8 5 i ≤ plc (τ.1 8 3 i) (τ.1 8 8 i) k
      · rw [if_pos hl, if_pos (Or.inr hl), r16]
      · rw [if_neg hl, if_neg (show ¬ (60 ≤ k ∨ τ.1 8 5 i ≤ plc (τ.1 8 3 i) (τ.1 8 8 i) k) from fun q => q.elim hq60 hl), m_depth _ hi8]
        simp only [Option.bind_some, r3, r2, hdp, r16, n60a, h480 (show 60 * i + k < 480 by omega), if_false, cl8 (show 60 * i + k < 480 by omega), nI_1]
        rw [cuS_up]
        have hr := ih (k + 1) (by omega) (by omega)
        rw [hdp] at hr
        exact hr
theorem pos_iff {c : Nat} (hc : c ≤ 60) : 0 < nI c ↔ ¬ c = 0 := by
  constructor
  · intro q r; subst r; exact absurd q (by decide)
  · intro q; exact nI_lt (a := 0) (by omega) (by omega)
theorem OK_cut {σ : Sg} {n m : Nat} (h : RN n m σ) (a b d : Int32) (hb : (b.toUInt32 % 65536).toInt32 = b) : OK (f_L_cut σ a b d) (fun τ => f_X4_cut τ a b d) := by
  rcases t_cases h a with hd | ⟨i, hi, hi8, rfl, hg, hf, hA, hB, hW, hG, c, hc, hC1, hC2, hC3, hC4⟩
  · exact OK.dead h (X_cut h hd _ _) (M_cut h.n8 h.c7 hd _ _)
  have hm := m_none σ h.n8 h.c7 hi hg
  have hn := cl8 (show i < 480 by omega)
  have hA' := hA
  obtain ⟨a2, a5, a7, a6, a4, a9, a10, a11, a13, a14, a15, a16, a17⟩ := hA'
  have hbad : ∀ (v : Int32), ¬ v = 0 → (hL : f_L_cut σ (nI i) b d = some (v, σ)) → (hM : f_X4_cut σ (nI i) b d = some (0, sv (sv σ 7 0 0 0) 7 0 0 v)) → OK (f_L_cut σ (nI i) b d) (fun τ => f_X4_cut τ (nI i) b d) := fun v hv hL hM => OK.no h v ((Lq.rf σ).t 0) (τ := σ) (b := 0) hL hM hv
  by_cases q0 : b = 98 ∨ b = 115 ∨ b = 109
  case neg =>
    refine hbad 2 (by decide) ?_ ?_
    · unfold f_L_cut f_X3_cut f_X3_cut_0
      simp only [t_live σ hi8 hf, bx_r, bx_l, c_cut, if_neg q0]; rfl
    · simp only [f_X4_cut, f_X4_cut_0, f_X4_cut_27, f_X4_cut_78, hm, Option.bind_some, if_true, m_cut, if_neg q0, w_2, if_neg one_ne]
  by_cases q1 : d < 0 ∨ 3 < d
  · refine hbad 2 (by decide) ?_ ?_
    · unfold f_L_cut f_X3_cut f_X3_cut_0
      simp only [t_live σ hi8 hf, bx_r, bx_l, c_cut, if_pos q0, c_in, if_pos q1]; rfl
    · simp only [f_X4_cut, f_X4_cut_0, f_X4_cut_27, f_X4_cut_78, hm, Option.bind_some, if_true, m_cut, if_pos q0, m_bt, if_pos q1, w_2, if_neg one_ne]
  by_cases q2 : σ.1 1 i 4 = 115
  case neg =>
    refine hbad 3 (by decide) ?_ ?_
    · unfold f_L_cut f_X3_cut f_X3_cut_0
      simp only [t_live σ hi8 hf, bx_r, bx_l, c_cut, if_pos q0, c_in, if_neg q1, c_depth, Option.bind_some, if_neg q2]; rfl
    · simp only [f_X4_cut, f_X4_cut_0, f_X4_cut_73, f_X4_cut_78, hm, Option.bind_some, if_true, m_cut, if_pos q0, m_bt, if_neg q1, w_3, if_neg one_ne, hn, h8 hi8, if_false, t8, a4, if_neg q2]
  by_cases q3 : 0 < σ.1 2 i 3
  · refine hbad 3 (by decide) ?_ ?_
    · unfold f_L_cut f_X3_cut f_X3_cut_0
      simp only [t_live σ hi8 hf, bx_r, bx_l, c_cut, if_pos q0, c_in, if_neg q1, c_depth, Option.bind_some, if_pos q2, if_pos q3]; rfl
    · simp only [f_X4_cut, f_X4_cut_0, f_X4_cut_73, f_X4_cut_78, hm, Option.bind_some, if_true, m_cut, if_pos q0, m_bt, if_neg q1, w_3, if_neg one_ne, hn, h8 hi8, if_false, t8, a4, if_pos q2, a16, if_pos q3]
  by_cases q4 : depthF b (σ.1 1 i 0) + 10 ≤ σ.1 1 i 3
  case neg =>
    refine hbad 3 (by decide) ?_ ?_
    · unfold f_L_cut f_X3_cut f_X3_cut_0
      simp only [t_live σ hi8 hf, bx_r, bx_l, c_cut, if_pos q0, c_in, if_neg q1, c_depth, Option.bind_some, if_pos q2, if_neg q3, if_neg q4]; rfl
    · simp only [f_X4_cut, f_X4_cut_0, f_X4_cut_73, f_X4_cut_78, hm, Option.bind_some, if_true, m_cut, if_pos q0, m_bt, if_neg q1, w_3, if_neg one_ne, hn, h8 hi8, if_false, t8, a4, if_pos q2, a16, if_neg q3, m_depthOf, a2, a6, if_neg q4]
  have hc0 : c = 0 := Classical.byContradiction (fun q => q3 (by rw [hC1]; exact (pos_iff hc).mpr q))
  -- the class
  generalize hσ1 : sv (sv (sv (sv σ 2 i 0 b) 2 i 1 (depthF b (σ.1 1 i 0))) 2 i 2 d) 2 i 4 0 = σ1
  have s0 : σ1.1 2 i 0 = b := by rw [← hσ1]; simp [sv_rd]
  have s1 : σ1.1 2 i 1 = depthF b (σ.1 1 i 0) := by rw [← hσ1]; simp [sv_rd]
  have s2 : σ1.1 2 i 2 = d := by rw [← hσ1]; simp [sv_rd]
  have s4 : σ1.1 2 i 4 = 0 := by rw [← hσ1]; simp [sv_rd]
  have sx : ∀ k p, ¬ k = 2 → σ1.1 k i p = σ.1 k i p := fun k p hk => by rw [← hσ1]; simp [sv_rd, hk]
  have s8 : ∀ f p, σ1.1 8 f p = σ.1 8 f p := fun f p => by rw [← hσ1]; rfl
  have s7 : ∀ f p, σ1.1 7 f p = σ.1 7 f p := fun f p => by rw [← hσ1]; rfl
  have s10 : ∀ f p, σ1.1 10 f p = σ.1 10 f p := fun f p => by rw [← hσ1]; rfl
  have sz : σ1.2 = σ.2 := by rw [← hσ1]; rfl
  have hL1 : Lc i σ σ1 := by
    rw [← hσ1]
    exact ((((Lc.rf i σ).sv _ _ _ _ (by unfold own; omega)).sv _ _ _ _ (by unfold own; omega)).sv _ _ _ _ (by unfold own; omega)).sv _ _ _ _ (by unfold own; omega)
  have hfill := fill_loop σ1 (i := i) (σ.1 1 i 1) 70 0 (by omega) (by omega)
  rw [s0, s1, s2] at hfill
  have hf0 : fiS σ1 i (depthF b (σ.1 1 i 0)) 0 = sv σ1 2 i 3 0 := by
    unfold fiS
    rw [stg_e, stg_e, stg_e, nI_0]
    exact Sg_ext (fun k' i' p' => by
      rw [sr_rd, sr_rd, sr_rd, sv_rd]
      by_cases h5 : k' = 5 ∧ i' = i
      · rw [if_pos h5, h5.1, h5.2, if_neg (by omega)]
      · rw [if_neg h5]
        by_cases h4 : k' = 4 ∧ i' = i
        · rw [if_pos h4, h4.1, h4.2, if_neg (by omega)]
        · rw [if_neg h4]
          by_cases h3 : k' = 3 ∧ i' = i
          · rw [if_pos h3, h3.1, h3.2, if_neg (by omega)]
          · rw [if_neg h3]) rfl
  rw [hf0] at hfill
  generalize hN : cutN (σ.1 1 i 1) b d 70 0 = N at hfill
  have hN60 : N ≤ 60 := by rw [← hN]; exact cutN_le _ _ _ _ _ (by omega)
  have r23 : (fiS σ1 i (depthF b (σ.1 1 i 0)) N).1 2 i 3 = nI N := by rw [fiS_rd]; simp
  -- the reference
  generalize hτ : svo (fiS σ1 i (depthF b (σ.1 1 i 0)) N) (nI N).toInt64 = τ
  have t8' : ∀ f p, τ.1 8 f p = σ.1 8 f p := fun f p => by rw [← hτ, svo_1, fiS_rd]; simp; exact s8 f p
  have t7 : ∀ f p, τ.1 7 f p = σ.1 7 f p := fun f p => by rw [← hτ, svo_1, fiS_rd]; simp; exact s7 f p
  generalize hτ1 : sv (sv (sv (sv τ 7 0 0 0) 7 0 0 0) 8 3 i b) 8 8 i d = τ1
  have u3 : τ1.1 8 3 i = b := by rw [← hτ1]; simp [sv_rd]
  have u8 : τ1.1 8 8 i = d := by rw [← hτ1]; simp [sv_rd]
  have u2 : τ1.1 8 2 i = σ.1 1 i 0 := by rw [← hτ1]; simp [sv_rd, t8', a2]
  have u5 : τ1.1 8 5 i = σ.1 1 i 1 := by rw [← hτ1]; simp [sv_rd, t8', a5]
  have hcut := cut_loop τ1 hi8 70 0 (by omega) (by omega)
  rw [u3, u2, u5, u8, hN] at hcut
  have hc00 : cuS τ1 i (depthF b (σ.1 1 i 0)) 0 = τ1 := by
    unfold cuS
    rw [Nat.add_zero, stg_e, stg_e, nI_0]
    exact Sg_ext (fun k' i' p' => by
      rw [sr_rd, sr_rd, sv_rd]
      by_cases h5 : k' = 8 ∧ i' = 21
      · rw [if_pos h5, h5.1, h5.2]
      · rw [if_neg h5]
        by_cases h4 : k' = 8 ∧ i' = 20
        · rw [if_pos h4, h4.1, h4.2]
        · rw [if_neg h4]
          by_cases h3 : k' = 8 ∧ i' = 16 ∧ p' = i
          · rw [if_pos h3, h3.1, h3.2.1, h3.2.2, ← hτ1]
            simp [sv_rd, t8', a16, hC1, hc0]
            decide
          · rw [if_neg h3]) rfl
  rw [hc00] at hcut
  refine OK.mut h hi (v := nI N) (τ := τ) (τ2 := cuS τ1 i (depthF b (σ.1 1 i 0)) N) ?_ ?_ ?_ ?_ ?_ ?_ ?_
  · rw [← hτ]
    unfold f_L_cut f_X3_cut f_X3_cut_0 f_X1_fill f_X1_fill_0
    simp only [t_live σ hi8 hf, bx_r, bx_l, c_cut, if_pos q0, c_in, if_neg q1, c_depth, Option.bind_some, if_pos q2, if_neg q3, if_pos q4, if_pos hb]
    rw [hσ1]
    have hfill' : f_X1_fill_31 70 (sv σ1 2 i 3 0) i (σ.1 1 i 1) 0 0 = some ((), fiS σ1 i (depthF b (σ.1 1 i 0)) N) := hfill
    rw [hfill']
    simp only [Option.bind_some, r23, bx_r]
  · have hm := m_none τ h.n8 (by rw [t7]; exact h.c7) hi (by rw [t8']; exact hg)
    simp only [f_X4_cut, f_X4_cut_0, f_X4_cut_73, f_X4_cut_78, hm, Option.bind_some, if_true, m_cut, if_pos q0, m_bt, if_neg q1, w_0, if_neg one_ne, hn, h8 hi8, if_false, t8, t8', a4, if_pos q2, a16, if_neg q3, m_depthOf, a2, a6, if_pos q4, vch hb]
    rw [hτ1]
    exact hcut
  · rw [cuS_rd, ← hτ1]; simp [sv_rd]
  · show τ1.2.2.1 = _
    rw [← hτ1, ← hτ]; rfl
  · show τ1.2.1 = _
    rw [← hτ1, ← hτ]
    show σ1.2.1 = _
    rw [sz]
  · intro k i' p ho
    rw [cuS_rd]
    have h1 : ¬ (k = 8 ∧ i' = 16 ∧ p = i) := by unfold own at ho; omega
    by_cases e21 : k = 8 ∧ i' = 21
    · rw [if_pos e21, stg_out (by unfold own at ho; omega), e21.1, e21.2, ← hτ1]
      simp [sv_rd, t8']
    rw [if_neg e21]
    by_cases e20 : k = 8 ∧ i' = 20
    · rw [if_pos e20, stg_out (by unfold own at ho; omega), e20.1, e20.2, ← hτ1]
      simp [sv_rd, t8']
    rw [if_neg e20, if_neg h1, ← hτ1, sv_rd, if_neg (by unfold own at ho; omega), sv_rd, if_neg (by unfold own at ho; omega), sv_rd, if_neg (by unfold own at ho; omega), sv_rd, if_neg (by unfold own at ho; omega), ← hτ, svo_1, fiS_rd, if_neg (by unfold own at ho; omega), if_neg (by unfold own at ho; omega), if_neg (by unfold own at ho; omega), if_neg (by unfold own at ho; omega)]
    exact hL1 k i' p ho
  · have v8 : ∀ f p, ¬ f = 3 → ¬ f = 8 → ¬ f = 16 → ¬ f = 20 → ¬ f = 21 → (cuS τ1 i (depthF b (σ.1 1 i 0)) N).1 8 f p = σ.1 8 f p := fun f p f3 f8 f16 f20 f21 => by
      rw [cuS_rd, ← hτ1]; simp [sv_rd, f3, f8, f16, f20, f21, t8']
    have v1 : ∀ p, (cuS τ1 i (depthF b (σ.1 1 i 0)) N).1 1 i p = σ.1 1 i p := fun p => by
      rw [cuS_rd, ← hτ1]; simp [sv_rd, ← hτ, svo_1, fiS_rd, sx]
    have v2 : ∀ p, (cuS τ1 i (depthF b (σ.1 1 i 0)) N).1 2 i p = if p = 3 then nI N else σ1.1 2 i p := fun p => by
      rw [cuS_rd, ← hτ1]; simp [sv_rd, ← hτ, svo_1, fiS_rd]
    have v3 : ∀ p, (cuS τ1 i (depthF b (σ.1 1 i 0)) N).1 3 i p = stg (plc b d) (σ1.1 3 i) 0 N p := fun p => by
      rw [cuS_rd, ← hτ1]; simp [sv_rd, ← hτ, svo_1, fiS_rd, s0, s2]
    have v4 : ∀ p, (cuS τ1 i (depthF b (σ.1 1 i 0)) N).1 4 i p = stg (fun _ => depthF b (σ.1 1 i 0)) (σ1.1 4 i) 0 N p := fun p => by
      rw [cuS_rd, ← hτ1]; simp [sv_rd, ← hτ, svo_1, fiS_rd]
    have v5 : ∀ p, (cuS τ1 i (depthF b (σ.1 1 i 0)) N).1 5 i p = stg (fun _ => 0) (σ1.1 5 i) 0 N p := fun p => by
      rw [cuS_rd, ← hτ1]; simp [sv_rd, ← hτ, svo_1, fiS_rd]
    have w3 : (cuS τ1 i (depthF b (σ.1 1 i 0)) N).1 8 3 i = b := by rw [cuS_rd]; simp [u3]
    have w8 : (cuS τ1 i (depthF b (σ.1 1 i 0)) N).1 8 8 i = d := by rw [cuS_rd]; simp [u8]
    have w16 : (cuS τ1 i (depthF b (σ.1 1 i 0)) N).1 8 16 i = nI N := by rw [cuS_rd]; simp
    have w10 : (cuS τ1 i (depthF b (σ.1 1 i 0)) N).1 10 0 i = σ.1 10 0 i := by
      rw [cuS_rd, ← hτ1]; simp [sv_rd, ← hτ, svo_1, fiS_rd, s10]
    have e17 : σ.1 2 i 4 = 0 := (hC2 hc0).2
    have hdr := depthF_r b (σ.1 1 i 0)
    refine ⟨?_, ?_, ?_, ?_, N, hN60, ?_, ?_, ?_, fun k hk => ?_⟩
    · unfold RA at hA ⊢
      have w := fun f p f3 f8 f16 f20 f21 => v8 f p f3 f8 f16 f20 f21
      rw [v8 2 i (by decide) (by decide) (by decide) (by decide) (by decide), v8 5 i (by decide) (by decide) (by decide) (by decide) (by decide), v8 7 i (by decide) (by decide) (by decide) (by decide) (by decide), v8 6 i (by decide) (by decide) (by decide) (by decide) (by decide), v8 4 i (by decide) (by decide) (by decide) (by decide) (by decide), v8 9 i (by decide) (by decide) (by decide) (by decide) (by decide), v8 10 i (by decide) (by decide) (by decide) (by decide) (by decide), v8 11 i (by decide) (by decide) (by decide) (by decide) (by decide), v8 13 i (by decide) (by decide) (by decide) (by decide) (by decide), v8 14 i (by decide) (by decide) (by decide) (by decide) (by decide), v8 15 i (by decide) (by decide) (by decide) (by decide) (by decide), v8 17 i (by decide) (by decide) (by decide) (by decide) (by decide), w16, v2, v2]
      simp only [v1, if_true, show ¬ (4 : Nat) = 3 by decide, if_false, s4]
      exact ⟨a2, a5, a7, a6, a4, a9, a10, a11, a13, a14, a15, trivial, by rw [a17, e17]⟩
    · unfold RB at hB ⊢
      simp only [v1, v2, s4, show ¬ (4 : Nat) = 3 by decide, if_false, if_true]
      refine ⟨hB.1, hB.2.1, hB.2.2.1, hB.2.2.2.1, hB.2.2.2.2.1, hB.2.2.2.2.2.1, hB.2.2.2.2.2.2.1, hB.2.2.2.2.2.2.2.1, hB.2.2.2.2.2.2.2.2.1, by decide, fun q => ?_⟩
      rw [q2] at q; exact absurd q (by decide)
    · unfold RW at hW ⊢
      simp only [v1, v8 18 i (by decide) (by decide) (by decide) (by decide) (by decide), v8 12 i (by decide) (by decide) (by decide) (by decide) (by decide)]
      exact hW
    · unfold RG at hG ⊢
      rw [w10, v8 19 i (by decide) (by decide) (by decide) (by decide) (by decide)]
      exact hG
    · rw [v2, if_pos rfl]
    · intro hN0
      have hp := cutN_pos (nm := b) (sp := d) hB.2.1.1 69
      rw [hN] at hp
      omega
    · intro _
      rw [w3, w8, v2, v2, v2, v1, if_neg (by decide), if_neg (by decide), if_neg (by decide), s0, s1, s2]
      exact ⟨rfl, rfl, rfl, by grind, hb⟩
    · unfold RK
      rw [v2, v2, v3, v4, v5, if_neg (by decide), if_neg (by decide), s0, s2, stg_in (Nat.zero_le _) hk, stg_in (Nat.zero_le _) hk, stg_in (Nat.zero_le _) hk, cuS_rd, cuS_rd]
      simp
      rw [stg_in (by omega) (by omega), stg_in (by omega) (by omega)]
      refine ⟨rfl, rfl, ⟨by grind, by grind⟩⟩
theorem zz {j : Nat} (hj : j < 2147483647) : (nI j).toInt64 * 48271 - (nI j).toInt64 * 48271 / 2147483647 * 2147483647 = lN (j * 48271 % 2147483647) := by
  rw [nI_l (by omega)]
  show lN j * lN 48271 - lN j * lN 48271 / lN 2147483647 * lN 2147483647 = _
  rw [lN_mul]
  exact pk_lRem (by omega) (by decide) (by decide)
theorem zch {k : Nat} (hk : k < 2147483647) : (lN k - lN k / 5 * 5).toInt32 = nI (k % 5) := by
  show (lN k - lN k / lN 5 * lN 5).toInt32 = _
  rw [pk_lRem (by omega) (by decide) (by decide), lN_i]
theorem zchm {k : Nat} (hk : k < 2147483647) : nI k - nI k / 5 * 5 = nI (k % 5) := pk_rem (a := k) (d := 5) (by omega) (by decide) (by decide)
theorem clampHM (w : Int32) : (if (1 : Int32) < (if w ≤ 66 then w else 66) then (if w ≤ 66 then w else 66) else 1) = (if (if (1 : Int32) < w then w else 1) < 66 then (if (1 : Int32) < w then w else 1) else 66) := by grind
theorem clampH_r (w : Int32) : 0 ≤ (if (if (1 : Int32) < w then w else 1) < 66 then (if (1 : Int32) < w then w else 1) else 66) ∧ (if (if (1 : Int32) < w then w else 1) < 66 then (if (1 : Int32) < w then w else 1) else 66) ≤ 66 := by grind
theorem thick20 {t : Int32} (h : 20 ≤ t ∧ t ≤ 99) : ¬ 20 * t = 0 ∧ ¬ t ≤ 0 := by
  obtain ⟨k, hk, rfl⟩ := nI_of (show ¬ t < 0 by grind)
  have h1 : 20 ≤ k := (nI_leI (a := 20) (by decide) hk).mp h.1
  have h2 : k ≤ 99 := (nI_leI (b := 99) hk (by decide)).mp h.2
  refine ⟨fun q => ?_, fun q => by grind⟩
  have q2 : nI 20 * nI k = 0 := q
  rw [pk_mul] at q2
  exact nI_ne0 (by omega) (by omega) q2
/-- the heat beyond 900 -/
def hotF (b : Int32) : Int32 := if b ≤ 900 then 0 else (b - 900) / 20
theorem hot_m (b : Int32) (x : Int32) (h : ¬ (b < 600 ∨ 1200 < b)) : x - (if (0 : Int32) < b - 900 then b - 900 else 0) / 20 = if b ≤ 900 then x else x - (b - 900) / 20 := by
  by_cases h1 : b ≤ 900
  · rw [if_pos h1, if_neg (by grind), show (0 : Int32) / 20 = 0 by decide]; grind
  · rw [if_neg h1, if_pos (by grind)]
theorem OK_harden {σ : Sg} {n m : Nat} (h : RN n m σ) (a b d : Int32) : OK (f_L_harden σ a b d) (fun τ => f_X4_harden τ a b d) := by
  rcases t_cases h a with hd | ⟨i, hi, hi8, rfl, hg, hf, hA, hB, hW, hG, hC⟩
  · exact OK.dead h (X_harden h hd _ _) (M_harden h.n8 h.c7 hd _ _)
  have hm := m_none σ h.n8 h.c7 hi hg
  have hn := cl8 (show i < 480 by omega)
  have hA' := hA
  obtain ⟨a2, a5, a7, a6, a4, a9, a10, a11, a13, a14, a15, a16, a17⟩ := hA'
  have hbad : ∀ (v : Int32), ¬ v = 0 → (hL : f_L_harden σ (nI i) b d = some (v, σ)) → (hM : f_X4_harden σ (nI i) b d = some (0, sv (sv σ 7 0 0 0) 7 0 0 v)) → OK (f_L_harden σ (nI i) b d) (fun τ => f_X4_harden τ (nI i) b d) := fun v hv hL hM => OK.no h v ((Lq.rf σ).t 0) (τ := σ) (b := 0) hL hM hv
  by_cases q0 : d = 111 ∨ d = 119 ∨ d = 98
  case neg =>
    refine hbad 2 (by decide) ?_ ?_
    · unfold f_L_harden f_X3_harden f_X3_harden_0
      simp only [t_live σ hi8 hf, bx_r, bx_l, c_bath, if_neg q0]; rfl
    · simp only [f_X4_harden, f_X4_harden_0, f_X4_harden_43, f_X4_harden_64, f_X4_harden_93, hm, Option.bind_some, if_true, if_neg (show ¬ d = 111 from fun q => q0 (Or.inl q)), if_neg (show ¬ d = 119 from fun q => q0 (Or.inr (Or.inl q))), if_neg (show ¬ d = 98 from fun q => q0 (Or.inr (Or.inr q))), w_2, if_neg one_ne]
  obtain ⟨F, hF0, hFc, hFm⟩ : ∃ F : Int32, ¬ F = 0 ∧ (∀ τ : Sg, f_X3_forceOf τ d = some (F, τ)) ∧ ∀ τ : Sg, (if d = 111 then f_X4_harden_43 τ (nI i) b 4 else if d = 119 then f_X4_harden_43 τ (nI i) b 8 else if d = 98 then f_X4_harden_43 τ (nI i) b 12 else f_X4_harden_43 τ (nI i) b 0) = f_X4_harden_43 τ (nI i) b F := by
    rcases q0 with rfl | rfl | rfl
    · exact ⟨4, by decide, fun _ => rfl, fun _ => rfl⟩
    · exact ⟨8, by decide, fun _ => rfl, fun _ => rfl⟩
    · exact ⟨12, by decide, fun _ => rfl, fun _ => rfl⟩
  by_cases q1 : b < 600 ∨ 1200 < b
  · refine hbad 2 (by decide) ?_ ?_
    · unfold f_L_harden f_X3_harden f_X3_harden_0
      simp only [t_live σ hi8 hf, bx_r, bx_l, c_bath, if_pos q0, c_in, if_pos q1]; rfl
    · simp only [f_X4_harden, f_X4_harden_0, hm, Option.bind_some, if_true, hFm]
      simp only [f_X4_harden_43, f_X4_harden_64, f_X4_harden_93, hm, Option.bind_some, if_true, if_neg hF0, m_bt, if_pos q1, w_2, if_neg one_ne]
  by_cases q2 : σ.1 1 i 4 = 115
  case neg =>
    refine hbad 3 (by decide) ?_ ?_
    · unfold f_L_harden f_X3_harden f_X3_harden_0
      simp only [t_live σ hi8 hf, bx_r, bx_l, c_bath, if_pos q0, c_in, if_neg q1, if_neg q2]; rfl
    · simp only [f_X4_harden, f_X4_harden_0, hm, Option.bind_some, if_true, hFm]
      simp only [f_X4_harden_43, f_X4_harden_88, f_X4_harden_93, hm, Option.bind_some, if_true, if_neg hF0, m_bt, if_neg q1, w_3, if_neg one_ne, hn, h8 hi8, if_false, t8, a4, if_neg q2]
  by_cases q3 : σ.1 2 i 3 = 0
  · refine hbad 3 (by decide) ?_ ?_
    · unfold f_L_harden f_X3_harden f_X3_harden_0
      simp only [t_live σ hi8 hf, bx_r, bx_l, c_bath, if_pos q0, c_in, if_neg q1, if_pos q2, if_pos q3]; rfl
    · simp only [f_X4_harden, f_X4_harden_0, hm, Option.bind_some, if_true, hFm]
      simp only [f_X4_harden_43, f_X4_harden_88, f_X4_harden_93, hm, Option.bind_some, if_true, if_neg hF0, m_bt, if_neg q1, w_3, if_neg one_ne, hn, h8 hi8, if_false, t8, a4, if_pos q2, a16, if_pos q3]
  by_cases q4 : 900 - σ.1 1 i 2 ≤ b
  case neg =>
    refine OK.yes (n := n) (m := m) (v := 0) (τ := svo σ (0 : Int32).toInt64) (τ2 := sv (sv (svo σ (0 : Int32).toInt64) 7 0 0 0) 7 0 0 0) ?_ ?_ rfl rfl (h.q ((((Lq.rf σ).o _).t 0).t 0))
    · unfold f_L_harden f_X3_harden f_X3_harden_0
      simp only [t_live σ hi8 hf, bx_r, bx_l, c_bath, if_pos q0, c_in, if_neg q1, if_pos q2, if_neg q3, if_neg q4]
    · have hm := m_no (σ := σ) (0 : Int32).toInt64 h.n8 h.c7 hi hg
      simp only [f_X4_harden, f_X4_harden_0, hm, Option.bind_some, if_true, hFm]
      simp only [f_X4_harden_43, f_X4_harden_88, f_X4_harden_93, hm, Option.bind_some, if_true, if_neg hF0, m_bt, if_neg q1, w_0, if_neg one_ne, hn, h8 hi8, if_false, t8, svo_1, a4, if_pos q2, a16, if_neg q3, a7, if_neg q4]
  obtain ⟨j, hj31, hj⟩ := nI_of (show ¬ σ.1 7 0 22 < 0 from Int32.not_lt.mpr h.2.2.2.2.2.2.2.1)
  have hjM : j < 2147483647 := by
    have := h.2.2.2.2.2.2.2.2.1
    rw [hj] at this
    exact (nI_ltI (b := 2147483647) hj31 (by decide)).mp this
  have hz : σ.2.1 = (nI j).toInt64 := by rw [h.2.2.2.2.2.2.1, hj]
  generalize hk2 : j * 48271 % 2147483647 = k2
  have hk2M : k2 < 2147483647 := by rw [← hk2]; exact Nat.mod_lt _ (by decide)
  have hzz := zz hjM
  rw [hk2] at hzz
  obtain ⟨ht1, ht2⟩ := thick20 hB.2.2.2.1
  generalize hx : (if b ≤ 900 then σ.1 1 i 2 / 2 + F else σ.1 1 i 2 / 2 + F - (b - 900) / 20) = x
  generalize hH : (if (if (1 : Int32) < x then x else 1) < 66 then (if (1 : Int32) < x then x else 1) else 66) = H
  have hHr := clampH_r x
  rw [hH] at hHr
  generalize hBn : σ.1 1 i 8 + (F * σ.1 1 i 1 / (20 * σ.1 1 i 3) + nI (k2 % 5)) = Bn
  generalize hS : (if Bn ≤ 30 then (104 : Int32) else 99) = S
  have hS2 : S = 104 ∨ S = 99 := by rw [← hS]; split <;> simp
  have hSc : (S.toUInt32 % 65536).toInt32 = S := by rcases hS2 with e | e <;> rw [e] <;> decide
  have hq : ∀ τ : Sg, τ.1 1 i = σ.1 1 i → f_X2_quench τ i b F (nI (k2 % 5)) = some ((), sv (sv (sv τ 1 i 7 H) 1 i 8 Bn) 1 i 4 S) := by
    intro τ e1
    have hq30 : f_X2_quench_30 τ i F (nI (k2 % 5)) x = some ((), sv (sv (sv τ 1 i 7 H) 1 i 8 Bn) 1 i 4 S) := by
      unfold f_X2_quench_30 f_X2_quench_70 f_X2_quench_102
      rw [hH]
      have r3 : (sv τ 1 i 7 H).1 1 i 3 = σ.1 1 i 3 := by simp [sv_rd, e1]
      have r1 : (sv τ 1 i 7 H).1 1 i 1 = σ.1 1 i 1 := by simp [sv_rd, e1]
      have r8 : (sv τ 1 i 7 H).1 1 i 8 = σ.1 1 i 8 := by simp [sv_rd, e1]
      have r9 : (sv (sv τ 1 i 7 H) 1 i 8 Bn).1 1 i 8 = Bn := by simp [sv_rd]
      simp only [r3, r1, r8, if_neg ht1, if_neg ht2, hBn, r9]
      by_cases h30 : Bn ≤ 30
      · rw [if_pos h30] at hS; rw [if_pos h30, ← hS, if_pos (by decide)]
      · rw [if_neg h30] at hS; rw [if_neg h30, ← hS, if_pos (by decide)]
    unfold f_X2_quench f_X2_quench_0
    simp only [d2, d20, if_false, e1]
    by_cases h9 : b ≤ 900
    · rw [if_pos h9] at hx; rw [if_pos h9, hx]; exact hq30
    · rw [if_neg h9] at hx; rw [if_neg h9, hx]; exact hq30
  have hRz : RN n m (sv (svz σ (lN k2)) 7 0 22 (nI k2)) := h.z (z := nI k2) ⟨nI_pos' (by omega), nI_lt (b := 2147483647) hk2M (by decide)⟩ (fun k i p hk => by rw [sv_rd, if_neg (by omega)]; rfl) (by rw [sv_rd, if_pos ⟨rfl, rfl, rfl⟩]) (by rw [sv_2, svz_z, nI_l (by omega)])
  have key : OK (f_L_harden σ (nI i) b d) (fun τ => f_X4_harden τ (nI i) b d) := by
    refine OK.yes (n := n) (m := m) (v := H) (τ := svo (sv (sv (sv (svz σ (lN k2)) 1 i 7 H) 1 i 8 Bn) 1 i 4 S) H.toInt64) (τ2 := sv (sv (sv (sv (sv (sv (svo (sv (sv (sv (svz σ (lN k2)) 1 i 7 H) 1 i 8 Bn) 1 i 4 S) H.toInt64) 7 0 0 0) 7 0 0 0) 8 10 i H) 7 0 22 (nI k2)) 8 11 i Bn) 8 4 i S) ?_ ?_ rfl rfl ?_
    · unfold f_L_harden f_X3_harden f_X3_harden_0
      simp only [t_live σ hi8 hf, bx_r, bx_l, c_bath, if_pos q0, c_in, if_neg q1, if_pos q2, if_neg q3, if_pos q4, hFc, Option.bind_some, hz, hzz, show ((2147483647 : Int64) = 0) = False by decide, show ((5 : Int64) = 0) = False by decide, if_false, svz_z, zch hk2M, hq (svz σ (lN k2)) rfl]
      simp [sv_rd, bx_r]
    · have hm := m_none (svo (sv (sv (sv (svz σ (lN k2)) 1 i 7 H) 1 i 8 Bn) 1 i 4 S) H.toInt64) h.n8 h.c7 hi hg
      have r8 : ∀ f p, (svo (sv (sv (sv (svz σ (lN k2)) 1 i 7 H) 1 i 8 Bn) 1 i 4 S) H.toInt64).1 8 f p = σ.1 8 f p := fun f p => rfl
      have r22 : (sv (sv (svo (sv (sv (sv (svz σ (lN k2)) 1 i 7 H) 1 i 8 Bn) 1 i 4 S) H.toInt64) 7 0 0 0) 7 0 0 0).1 7 0 22 = nI j := hj
      generalize svo (sv (sv (sv (svz σ (lN k2)) 1 i 7 H) 1 i 8 Bn) 1 i 4 S) H.toInt64 = τ at hm r8 r22
      have hw : (if (1 : Int32) < (if x ≤ 66 then x else 66) then (if x ≤ 66 then x else 66) else 1) = H := by rw [clampHM, hH]
      have e22 : ∀ τ : Sg, (sv (sv τ 8 10 i H) 7 0 22 (nI k2)).1 7 0 22 = nI k2 := fun τ => by simp [sv_rd]
      have e11 : ∀ τ : Sg, (sv τ 8 11 i Bn).1 8 11 i = Bn := fun τ => by simp [sv_rd]
      have e10 : ∀ (τ : Sg), (sv (sv (sv τ 8 10 i H) 7 0 22 (nI k2)) 8 11 i Bn).1 8 10 i = H := fun τ => by simp [sv_rd]
      have hxm := hot_m b (σ.1 1 i 2 / 2 + F) q1
      rw [hx] at hxm
      simp only [f_X4_harden, f_X4_harden_0, hm, Option.bind_some, if_true, hFm]
      simp only [f_X4_harden_43, f_X4_harden_88, f_X4_harden_93, hm, Option.bind_some, if_true, if_neg hF0, m_bt, if_neg q1, w_0, if_neg one_ne, hn, h8 hi8, if_false, t8, r8, a4, if_pos q2, a16, if_neg q3, a7, if_pos q4, d2, d20, d5, m_most, m_least, hxm, max_eq, hw, r22, hzz, show ((2147483647 : Int64) = 0) = False by decide, a6, ht1, a5, a11, lN_i, e22, zchm hk2M, hBn, e11]
      unfold f_X4_harden_232
      simp only [h8 hi8, hn, if_false, e10, vc104, vc99]
      by_cases h30 : Bn ≤ 30
      · rw [if_pos h30] at hS; rw [if_pos h30, hS]
      · rw [if_neg h30] at hS; rw [if_neg h30, hS]
    · refine hRz.loc hi (fun k i' p ho => ?_) rfl ?_
      · rw [sv_rd, if_neg (by unfold own at ho; omega), sv_rd, if_neg (by unfold own at ho; omega), sv_rd, sv_rd (svz σ (lN k2))]
        by_cases h22 : k = 7 ∧ i' = 0 ∧ p = 22
        · rw [if_pos h22, if_pos h22]
        · rw [if_neg h22, if_neg h22, sv_rd, if_neg (by unfold own at ho; omega), sv_rd, if_neg (by unfold own at ho; omega), sv_rd, if_neg (by unfold own at ho; omega), svo_1, sv_rd, if_neg (by unfold own at ho; omega), sv_rd, if_neg (by unfold own at ho; omega), sv_rd, if_neg (by unfold own at ho; omega)]
      · refine ⟨?_, ?_, ?_, ?_, hC.mv (by simp [sv_rd, svo_1, svz_1]) rfl rfl rfl rfl rfl rfl rfl rfl⟩
        · unfold RA at hA ⊢
          simp [sv_rd, svo_1, svz_1, a2, a5, a7, a6, a4, a9, a10, a11, a13, a14, a15, a16, a17]
        · unfold RB at hB ⊢
          simp [sv_rd, svo_1, svz_1]
          grind
        · unfold RW at hW ⊢
          simp [sv_rd, svo_1, svz_1]; exact hW
        · unfold RG at hG ⊢
          simp [sv_rd, svo_1, svz_1]; exact hG
  exact key
theorem sv_sr2 (σ : Sg) {k i k2 i2 : Nat} (p : Nat) (g : Nat → Int32) (v : Int32) (h : ¬ (k = k2 ∧ i = i2)) : sv (sr σ k2 i2 g) k i p v = sr (sv σ k i p v) k2 i2 g := Sg_ext (fun k' i' p' => by
  rw [sv_rd, sr_rd, sr_rd, sv_rd]
  by_cases h1 : k' = k2 ∧ i' = i2
  · rw [if_pos h1, if_pos h1, if_neg (fun q => h ⟨by omega, by omega⟩)]
  · rw [if_neg h1, if_neg h1]) rfl
theorem stg_full {F g : Nat → Int32} {lo c : Nat} (h : ∀ p, ¬ (lo ≤ p ∧ p < c) → F p = g p) : stg F g lo c = F := funext fun p => by
  by_cases hp : lo ≤ p ∧ p < c
  · exact stg_in hp.1 hp.2
  · rw [stg_out (by omega), h p hp]
def biF (hard metal : Int32) : Int32 := if hard ≤ metal then 0 else 1 + (hard - metal) / 10
/-- what the first k teeth bite -/
def Bf (bi room : Int32) (hs : Nat → Int32) : Nat → Int32
  | 0 => 0
  | k + 1 => if room ≤ Bf bi room hs k ∨ hs k ≤ 0 then Bf bi room hs k else Bf bi room hs k + (if hs k < bi then hs k else bi)
def hN (bi room metal : Int32) (hs ws : Nat → Int32) (c : Nat) : Nat → Int32 := fun k => if k < c ∧ ¬ (room ≤ Bf bi room hs k ∨ hs k ≤ 0) then (if ws k + metal < 100 then hs k else hs k - 1) else hs k
def wN (bi room metal : Int32) (hs ws : Nat → Int32) (c : Nat) : Nat → Int32 := fun k => if k < c ∧ ¬ (room ≤ Bf bi room hs k ∨ hs k ≤ 0) then (if ws k + metal < 100 then ws k + metal else ws k + metal - 100) else ws k
theorem Bf_stop {bi room : Int32} {hs : Nat → Int32} {k : Nat} (h : room ≤ Bf bi room hs k) : ∀ d, Bf bi room hs (k + d) = Bf bi room hs k := by
  intro d
  induction d with
  | zero => rfl
  | succ d ih =>
    show (if room ≤ Bf bi room hs (k + d) ∨ hs (k + d) ≤ 0 then Bf bi room hs (k + d) else _) = _
    rw [ih, if_pos (Or.inl h)]
theorem div100 {w metal : Int32} (hw : 0 ≤ w ∧ w ≤ 99) (hm : ¬ (metal < 1 ∨ 70 < metal)) : (w + metal) / 100 = if w + metal < 100 then 0 else 1 := by
  obtain ⟨k, hk, rfl⟩ := nI_of (show ¬ w < 0 by grind)
  obtain ⟨q, hq, rfl⟩ := nI_of (show ¬ metal < 0 by grind)
  have h1 : k ≤ 99 := (nI_leI (b := 99) hk (by decide)).mp hw.2
  have h2 : q ≤ 70 := (nI_leI (b := 70) hq (by decide)).mp (show nI q ≤ (70 : Int32) by grind)
  rw [nI_add]
  show nI (k + q) / nI 100 = _
  rw [pk_div (by omega) (by decide) (by decide)]
  by_cases h : k + q < 100
  · rw [if_pos (show nI (k + q) < 100 from nI_lt (b := 100) h (by decide)), Nat.div_eq_of_lt h]; decide
  · rw [if_neg (show ¬ nI (k + q) < 100 from nI_nlt (b := 100) (by omega) (by omega)), show (k + q) / 100 = 1 by omega]; decide
theorem wearH {h w metal : Int32} (hh : 0 < h ∧ h ≤ 9) (hw : 0 ≤ w ∧ w ≤ 99) (hm : ¬ (metal < 1 ∨ 70 < metal)) : (if 0 < h - (w + metal) / 100 then h - (w + metal) / 100 else 0) = if w + metal < 100 then h else h - 1 := by
  rw [div100 hw hm]
  by_cases h1 : w + metal < 100
  · rw [if_pos h1, if_pos h1]; grind
  · rw [if_neg h1, if_neg h1]; grind
theorem wearW {w metal : Int32} (hw : 0 ≤ w ∧ w ≤ 99) (hm : ¬ (metal < 1 ∨ 70 < metal)) : (w + metal) - (w + metal) / 100 * 100 = if w + metal < 100 then w + metal else w + metal - 100 := by
  rw [div100 hw hm]
  by_cases h1 : w + metal < 100
  · rw [if_pos h1, if_pos h1]; grind
  · rw [if_neg h1, if_neg h1]; grind
theorem stroke_loop (σ : Sg) {i c : Nat} (hc : c ≤ 60) (h3 : σ.1 2 i 3 = nI c) (bi room metal : Int32) (hm : ¬ (metal < 1 ∨ 70 < metal)) (hs ws : Nat → Int32) (hb : ∀ k, k < c → (0 ≤ hs k ∧ hs k ≤ 9) ∧ (0 ≤ ws k ∧ ws k ≤ 99)) : ∀ (fu k : Nat), k ≤ c → c - k < fu →
    f_X1_stroke_13 fu (sr (sr σ 4 i (stg (hN bi room metal hs ws c) hs 0 k)) 5 i (stg (wN bi room metal hs ws c) ws 0 k)) i metal room bi (Bf bi room hs k) (nI k) = some (Bf bi room hs c, sr (sr σ 4 i (hN bi room metal hs ws c)) 5 i (wN bi room metal hs ws c)) := by
  intro fu
  induction fu with
  | zero => intro k _ h; omega
  | succ fu ih =>
    intro k hk hf
    show g_X1_stroke_13 (f_X1_stroke_13 fu) _ i metal room bi (Bf bi room hs k) (nI k) = _
    unfold g_X1_stroke_13 f_X1_stroke_68 f_X1_stroke_62
    have e3 : (sr (sr σ 4 i (stg (hN bi room metal hs ws c) hs 0 k)) 5 i (stg (wN bi room metal hs ws c) ws 0 k)).1 2 i 3 = nI c := h3
    rw [e3]
    by_cases hkc : k = c
    · subst hkc
      rw [if_pos (Int32.le_refl _), stg_full (fun p hp => by unfold hN; rw [if_neg (fun q => hp ⟨Nat.zero_le _, q.1⟩)]), stg_full (fun p hp => by unfold wN; rw [if_neg (fun q => hp ⟨Nat.zero_le _, q.1⟩)])]
    · rw [if_neg (nI_ge (show k < c by omega) (by omega))]
      by_cases hr : room ≤ Bf bi room hs k
      · have hst : ∀ p, k ≤ p → room ≤ Bf bi room hs p := fun p hp => by
          have := Bf_stop hr (p - k)
          rw [show k + (p - k) = p by omega] at this
          rw [this]; exact hr
        have hBc : Bf bi room hs c = Bf bi room hs k := by
          have := Bf_stop hr (c - k)
          rw [show k + (c - k) = c by omega] at this
          exact this
        rw [if_pos hr, hBc, stg_full (fun p hp => by unfold hN; rw [if_neg (fun q => q.2 (Or.inl (hst p (by omega))))]), stg_full (fun p hp => by unfold wN; rw [if_neg (fun q => q.2 (Or.inl (hst p (by omega))))])]
      · rw [if_neg hr]
        have e4 : (sr (sr σ 4 i (stg (hN bi room metal hs ws c) hs 0 k)) 5 i (stg (wN bi room metal hs ws c) ws 0 k)).1 4 i k = hs k := by rw [sr_rd, if_neg (by omega), sr_rd, if_pos ⟨rfl, rfl⟩, stg_at]
        have e5 : (sr (sr σ 4 i (stg (hN bi room metal hs ws c) hs 0 k)) 5 i (stg (wN bi room metal hs ws c) ws 0 k)).1 5 i k = ws k := by rw [sr_rd, if_pos ⟨rfl, rfl⟩, stg_at]
        simp only [h60 (show k < 60 by omega), if_false, cl8 (show k < 480 by omega), e4, nI_1]
        have hrec := ih (k + 1) (by omega) (by omega)
        by_cases h0 : hs k ≤ 0
        · rw [if_pos h0]
          have eB : Bf bi room hs (k + 1) = Bf bi room hs k := if_pos (Or.inr h0)
          rw [stg_sk (Nat.zero_le _) (show hN bi room metal hs ws c k = hs k by unfold hN; rw [if_neg (fun q => q.2 (Or.inr h0))]), stg_sk (Nat.zero_le _) (show wN bi room metal hs ws c k = ws k by unfold wN; rw [if_neg (fun q => q.2 (Or.inr h0))]), eB] at hrec
          exact hrec
        · rw [if_neg h0]
          have eB : Bf bi room hs (k + 1) = Bf bi room hs k + (if hs k < bi then hs k else bi) := if_neg (fun q => q.elim hr h0)
          have hbk := hb k (by omega)
          unfold f_X1_wearTooth f_X1_wearTooth_0
          simp only [h60 (show k < 60 by omega), if_false, cl8 (show k < 480 by omega), d100, e4, e5, Option.bind_some]
          rw [wearH ⟨by grind, hbk.1.2⟩ hbk.2 hm, wearW hbk.2 hm, sv_sr2 _ _ _ _ (by omega), sv_sr, sv_sr, stg_up (Nat.zero_le _) (show _ = hN bi room metal hs ws c k by unfold hN; rw [if_pos (show k < c ∧ ¬ (room ≤ Bf bi room hs k ∨ hs k ≤ 0) from ⟨by omega, fun q => q.elim hr h0⟩)]), stg_up (Nat.zero_le _) (show _ = wN bi room metal hs ws c k by unfold wN; rw [if_pos (show k < c ∧ ¬ (room ≤ Bf bi room hs k ∨ hs k ≤ 0) from ⟨by omega, fun q => q.elim hr h0⟩)]), ← eB]
          exact hrec
theorem c_bite (σ : Sg) (hard metal : Int32) : f_X3_biteOf σ hard metal = some (biF hard metal, σ) := by
  unfold f_X3_biteOf f_X3_biteOf_0 biF
  simp only [d10, if_false]
  split <;> rfl
theorem c_stroke (σ : Sg) {i c : Nat} (hc : c ≤ 60) (h3 : σ.1 2 i 3 = nI c) (hard room metal : Int32) (hm : ¬ (metal < 1 ∨ 70 < metal)) (hb : ∀ k, k < c → (0 ≤ σ.1 4 i k ∧ σ.1 4 i k ≤ 9) ∧ (0 ≤ σ.1 5 i k ∧ σ.1 5 i k ≤ 99)) :
    f_X1_stroke σ i hard metal room = some (Bf (biF hard metal) room (σ.1 4 i) c, sr (sr σ 4 i (hN (biF hard metal) room metal (σ.1 4 i) (σ.1 5 i) c)) 5 i (wN (biF hard metal) room metal (σ.1 4 i) (σ.1 5 i) c)) := by
  have h := stroke_loop σ hc h3 (biF hard metal) room metal hm (σ.1 4 i) (σ.1 5 i) hb 70 0 (Nat.zero_le _) (by omega)
  rw [stg_e, stg_e, sr_id, sr_id] at h
  unfold f_X1_stroke f_X1_stroke_0
  rw [c_bite]
  exact h
/-- the tool's greatest bite, whatever it is, changes nothing -/
theorem c_great (σ : Sg) {i c : Nat} (hc : c ≤ 60) (h3 : σ.1 2 i 3 = nI c) : ∃ v, f_X2_greatestBite σ i = some (v, σ) := by
  unfold f_X2_greatestBite f_X2_greatestBite_0
  by_cases q : σ.1 1 i 4 = 104
  · rw [if_pos q, c_high σ hc h3]
    simp only [Option.bind_some, c_bite]
    exact ⟨_, rfl⟩
  · rw [if_neg q]
    exact ⟨_, rfl⟩
theorem c_onemore (σ : Sg) {i c : Nat} (hc : c ≤ 60) (h3 : σ.1 2 i 3 = nI c) : ∃ v, f_X2_oneMoreBite σ i = some (v, σ) := by
  obtain ⟨v, e⟩ := c_great σ hc h3
  unfold f_X2_oneMoreBite f_X2_oneMoreBite_0
  rw [e]
  exact ⟨_, rfl⟩
theorem biF_r (hard metal : Int32) (hh : 0 ≤ hard ∧ hard ≤ 66) (hm : ¬ (metal < 1 ∨ 70 < metal)) : 0 ≤ biF hard metal := by
  unfold biF
  split
  · decide
  · next h1 =>
    obtain ⟨k, hk, e⟩ := nI_of (show ¬ hard - metal < 0 by grind)
    rw [e]
    have h2 : k ≤ 66 := (nI_leI (b := 66) hk (by decide)).mp (by rw [← e]; show hard - metal ≤ (66 : Int32); grind)
    show 0 ≤ nI 1 + nI k / nI 10
    rw [pk_div hk (by decide) (by decide), nI_add]
    exact nI_pos' (by omega)
theorem Bf_step {ch H B x : Int32} (hch : 0 ≤ ch ∧ ch ≤ 1100) (hH : 0 ≤ H ∧ H ≤ 1080) (hB : 0 ≤ B ∧ B ≤ 1100) (h2 : ¬ H - ch ≤ B) (hx : 0 ≤ x ∧ x ≤ 9) : 0 ≤ B + x ∧ B + x ≤ 1100 ∧ 0 ≤ ch + (B + x) ∧ ch + (B + x) ≤ 1100 := by
  obtain ⟨a, ha, rfl⟩ := nI_of (Int32.not_lt.mpr hch.1)
  obtain ⟨b, hb, rfl⟩ := nI_of (Int32.not_lt.mpr hB.1)
  obtain ⟨c, hc, rfl⟩ := nI_of (Int32.not_lt.mpr hH.1)
  obtain ⟨d, hd, rfl⟩ := nI_of (Int32.not_lt.mpr hx.1)
  have h4 := (nI_leI (b := 1100) ha (by decide)).mp hch.2
  have h5 := (nI_leI (b := 1100) hb (by decide)).mp hB.2
  have h6 := (nI_leI (b := 1080) hc (by decide)).mp hH.2
  have h7 := (nI_leI (b := 9) hd (by decide)).mp hx.2
  rw [Int32.le_iff_toInt_le, pk_sub_toInt (by omega) (by omega), nI_toInt hb] at h2
  rw [nI_add, nI_add]
  exact ⟨nI_pos' (by omega), nI_le (b := 1100) (by omega) (by decide), nI_pos' (by omega), nI_le (b := 1100) (by omega) (by decide)⟩
theorem Bf_r {bi room ch H : Int32} {hs : Nat → Int32} {c : Nat} (hbi : 0 ≤ bi) (hb : ∀ k, k < c → 0 ≤ hs k ∧ hs k ≤ 9) (hch : 0 ≤ ch ∧ ch ≤ 1100) (hH : 0 ≤ H ∧ H ≤ 1080) (hr : room = H - ch) : ∀ k, k ≤ c → 0 ≤ Bf bi room hs k ∧ Bf bi room hs k ≤ 1100 ∧ 0 ≤ ch + Bf bi room hs k ∧ ch + Bf bi room hs k ≤ 1100 := by
  intro k
  induction k with
  | zero => intro _; show 0 ≤ (0 : Int32) ∧ (0 : Int32) ≤ 1100 ∧ 0 ≤ ch + 0 ∧ ch + 0 ≤ 1100; grind
  | succ k ih =>
    intro hk
    obtain ⟨i1, i2, i3, i4⟩ := ih (by omega)
    have hbk := hb k (by omega)
    show 0 ≤ (if room ≤ Bf bi room hs k ∨ hs k ≤ 0 then Bf bi room hs k else Bf bi room hs k + (if hs k < bi then hs k else bi)) ∧ (if room ≤ Bf bi room hs k ∨ hs k ≤ 0 then Bf bi room hs k else Bf bi room hs k + (if hs k < bi then hs k else bi)) ≤ 1100 ∧ 0 ≤ ch + (if room ≤ Bf bi room hs k ∨ hs k ≤ 0 then Bf bi room hs k else Bf bi room hs k + (if hs k < bi then hs k else bi)) ∧ ch + (if room ≤ Bf bi room hs k ∨ hs k ≤ 0 then Bf bi room hs k else Bf bi room hs k + (if hs k < bi then hs k else bi)) ≤ 1100
    generalize Bf bi room hs k = B at i1 i2 i3 i4
    by_cases h1 : room ≤ B ∨ hs k ≤ 0
    · rw [if_pos h1]; exact ⟨i1, i2, i3, i4⟩
    · rw [if_neg h1]
      have h2 : ¬ room ≤ B := fun q => h1 (Or.inl q)
      have hmin : 0 ≤ (if hs k < bi then hs k else bi) ∧ (if hs k < bi then hs k else bi) ≤ 9 := by split <;> grind
      generalize (if hs k < bi then hs k else bi) = x at hmin
      subst hr
      exact Bf_step hch hH ⟨i1, i2⟩ h2 hmin
theorem room_eq {ch H B : Int32} (hch : 0 ≤ ch ∧ ch ≤ 1100) (hH : 0 ≤ H ∧ H ≤ 1080) (hB : 0 ≤ B ∧ B ≤ 1100) : ch + B < H ↔ ¬ H - ch ≤ B := by
  obtain ⟨a, ha, rfl⟩ := nI_of (Int32.not_lt.mpr hch.1)
  obtain ⟨b, hb, rfl⟩ := nI_of (Int32.not_lt.mpr hB.1)
  obtain ⟨c, hc, rfl⟩ := nI_of (Int32.not_lt.mpr hH.1)
  have h4 := (nI_leI (b := 1100) ha (by decide)).mp hch.2
  have h5 := (nI_leI (b := 1100) hb (by decide)).mp hB.2
  have h6 := (nI_leI (b := 1080) hc (by decide)).mp hH.2
  rw [Int32.le_iff_toInt_le, pk_sub_toInt (by omega) (by omega), nI_toInt hb, nI_add, nI_ltI (by omega) hc]
  omega
theorem holds_r {d s : Int32} {c : Nat} (hd : 0 ≤ d ∧ d ≤ 9) (hs : 0 ≤ s ∧ s ≤ 9) (hc : c ≤ 60) : 0 ≤ (d + s) * nI c ∧ (d + s) * nI c ≤ 1080 := by
  obtain ⟨k, hk, e⟩ := nI_of (show ¬ d + s < 0 by grind)
  have h1 : k ≤ 18 := (nI_leI (b := 18) hk (by decide)).mp (by rw [← e]; show d + s ≤ (18 : Int32); grind)
  rw [e, pk_mul]
  have h2 : k * c ≤ 18 * 60 := Nat.mul_le_mul h1 hc
  exact ⟨nI_pos' (by omega), nI_le (b := 1080) (by omega) (by decide)⟩
theorem mstroke_loop (τ : Sg) {i c : Nat} (hi8 : i < 8) (hc : c ≤ 60) (hR : RH τ i) (h16 : τ.1 8 16 i = nI c) {ch metal : Int32} (hm : ¬ (metal < 1 ∨ 70 < metal)) (hch : 0 ≤ ch ∧ ch ≤ 1100) (hH : 0 ≤ (τ.1 2 i 1 + τ.1 1 i 6) * τ.1 2 i 3 ∧ (τ.1 2 i 1 + τ.1 1 i 6) * τ.1 2 i 3 ≤ 1080)
    {room : Int32} (hroom : room = (τ.1 2 i 1 + τ.1 1 i 6) * τ.1 2 i 3 - ch) (hhd : 0 ≤ τ.1 8 10 i ∧ τ.1 8 10 i ≤ 66) (hs ws : Nat → Int32) (mh mw : Nat → Int32) (hmh : ∀ k, k < c → mh (60 * i + k) = hs k) (hmw : ∀ k, k < c → mw (60 * i + k) = ws k) (hb : ∀ k, k < c → (0 ≤ hs k ∧ hs k ≤ 9) ∧ (0 ≤ ws k ∧ ws k ≤ 99)) :
    ∀ (fu k : Nat), k ≤ c → c - k < fu →
    f_X4_stroke_8 fu (sr (sr (sv τ 8 13 i (ch + Bf (biF (τ.1 8 10 i) metal) room hs k)) 8 20 (stg (fun p => hN (biF (τ.1 8 10 i) metal) room metal hs ws c (p - 60 * i)) mh (60 * i) (60 * i + k))) 8 21 (stg (fun p => wN (biF (τ.1 8 10 i) metal) room metal hs ws c (p - 60 * i)) mw (60 * i) (60 * i + k))) (nI i) metal (Bf (biF (τ.1 8 10 i) metal) room hs k) (nI (60 * i + k))
      = some (Bf (biF (τ.1 8 10 i) metal) room hs c, sr (sr (sv τ 8 13 i (ch + Bf (biF (τ.1 8 10 i) metal) room hs c)) 8 20 (stg (fun p => hN (biF (τ.1 8 10 i) metal) room metal hs ws c (p - 60 * i)) mh (60 * i) (60 * i + c))) 8 21 (stg (fun p => wN (biF (τ.1 8 10 i) metal) room metal hs ws c (p - 60 * i)) mw (60 * i) (60 * i + c))) := by
  intro fu
  have hbi := biF_r _ _ hhd hm
  have hBr := Bf_r (room := room) (hs := hs) (c := c) hbi (fun k hk => (hb k hk).1) hch hH hroom
  generalize hBI : biF (τ.1 8 10 i) metal = bi at hbi hBr
  induction fu with
  | zero => intro k _ h; omega
  | succ fu ih =>
    intro k hk hf
    generalize hSt : sr (sr (sv τ 8 13 i (ch + Bf bi room hs k)) 8 20 (stg (fun p => hN bi room metal hs ws c (p - 60 * i)) mh (60 * i) (60 * i + k))) 8 21 (stg (fun p => wN bi room metal hs ws c (p - 60 * i)) mw (60 * i) (60 * i + k)) = St
    show g_X4_stroke_8 (f_X4_stroke_8 fu) St (nI i) metal (Bf bi room hs k) (nI (60 * i + k)) = _
    have s16 : St.1 8 16 i = nI c := by rw [← hSt]; exact h16
    have s13 : St.1 8 13 i = ch + Bf bi room hs k := by rw [← hSt, sr_rd, if_neg (by omega), sr_rd, if_neg (by omega), sv_rd, if_pos ⟨rfl, rfl, rfl⟩]
    have s10 : St.1 8 10 i = τ.1 8 10 i := by rw [← hSt]; rfl
    have sH : f_X4_holds St (nI i) = some ((τ.1 2 i 1 + τ.1 1 i 6) * τ.1 2 i 3, St) := by
      have hq : RH St i := by rw [← hSt]; exact hR
      rw [m_holds St hi8 hq, ← hSt]; rfl
    have s20 : St.1 8 20 (60 * i + k) = mh (60 * i + k) := by rw [← hSt, sr_rd, if_neg (by omega), sr_rd, if_pos ⟨rfl, rfl⟩, stg_at]
    have s21 : St.1 8 21 (60 * i + k) = mw (60 * i + k) := by rw [← hSt, sr_rd, if_pos ⟨rfl, rfl⟩, stg_at]
    unfold g_X4_stroke_8 f_X4_stroke_172
    simp only [h8 hi8, if_false, cl8 (show i < 480 by omega), s16, n60a]
    by_cases hkc : k = c
    · subst hkc
      rw [if_pos (Int32.le_refl _), ← hSt]
    · have hkc' : k < c := by omega
      have hbk := hb k hkc'
      obtain ⟨b1, b2, b3, b4⟩ := hBr k hk
      have hrec := ih (k + 1) (by omega) (by omega)
      rw [if_neg (nI_ge (show 60 * i + k < 60 * i + c by omega) (by omega))]
      simp only [h480 (show 60 * i + k < 480 by omega), if_false, cl8 (show 60 * i + k < 480 by omega), s20, hmh k hkc', nI_1]
      have hskip : (room ≤ Bf bi room hs k ∨ hs k ≤ 0) → f_X4_stroke_8 fu St (nI i) metal (Bf bi room hs k) (nI (60 * i + k + 1)) = some (Bf bi room hs c, sr (sr (sv τ 8 13 i (ch + Bf bi room hs c)) 8 20 (stg (fun p => hN bi room metal hs ws c (p - 60 * i)) mh (60 * i) (60 * i + c))) 8 21 (stg (fun p => wN bi room metal hs ws c (p - 60 * i)) mw (60 * i) (60 * i + c))) := by
        intro hq
        have eB : Bf bi room hs (k + 1) = Bf bi room hs k := if_pos hq
        rw [show 60 * i + (k + 1) = 60 * i + k + 1 by omega, stg_sk (by omega) (show hN bi room metal hs ws c (60 * i + k - 60 * i) = mh (60 * i + k) by rw [show 60 * i + k - 60 * i = k by omega, hmh k hkc']; unfold hN; rw [if_neg (fun q => q.2 hq)]), stg_sk (by omega) (show wN bi room metal hs ws c (60 * i + k - 60 * i) = mw (60 * i + k) by rw [show 60 * i + k - 60 * i = k by omega, hmw k hkc']; unfold wN; rw [if_neg (fun q => q.2 hq)]), eB, hSt] at hrec
        exact hrec
      by_cases h0 : hs k = 0
      · rw [if_pos h0]
        exact hskip (Or.inr (by rw [h0]; exact Int32.le_refl _))
      · rw [if_neg h0, sH]
        simp only [Option.bind_some, s13]
        by_cases hr : room ≤ Bf bi room hs k
        · rw [if_neg (fun q => (room_eq hch hH ⟨b1, b2⟩).mp q (by rw [← hroom]; exact hr))]
          exact hskip (Or.inl hr)
        · rw [if_pos ((room_eq hch hH ⟨b1, b2⟩).mpr (by rw [← hroom]; exact hr))]
          have h0' : ¬ hs k ≤ 0 := by grind
          have hstruck : k < c ∧ ¬ (room ≤ Bf bi room hs k ∨ hs k ≤ 0) := ⟨hkc', fun q => q.elim hr h0'⟩
          have eB : Bf bi room hs (k + 1) = Bf bi room hs k + (if hs k < bi then hs k else bi) := if_neg hstruck.2
          -- the tooth is struck with a bite x
          have go : ∀ x : Int32, x = (if hs k < bi then hs k else bi) → f_X4_stroke_88 (f_X4_stroke_8 fu) St (nI i) metal (Bf bi room hs k) (nI (60 * i + k)) x = some (Bf bi room hs c, sr (sr (sv τ 8 13 i (ch + Bf bi room hs c)) 8 20 (stg (fun p => hN bi room metal hs ws c (p - 60 * i)) mh (60 * i) (60 * i + c))) 8 21 (stg (fun p => wN bi room metal hs ws c (p - 60 * i)) mw (60 * i) (60 * i + c))) := by
            intro x hx
            have e13 : ch + Bf bi room hs k + x = ch + Bf bi room hs (k + 1) := by rw [eB, ← hx]; grind
            have eBx : Bf bi room hs k + x = Bf bi room hs (k + 1) := by rw [eB, ← hx]
            have fin : ∀ (v w : Int32), v = hN bi room metal hs ws c k → w = wN bi room metal hs ws c k → sv (sv (sv (sv St 8 13 i (ch + Bf bi room hs (k + 1))) 8 21 (60 * i + k) (ws k + metal)) 8 20 (60 * i + k) v) 8 21 (60 * i + k) w = sr (sr (sv τ 8 13 i (ch + Bf bi room hs (k + 1))) 8 20 (stg (fun p => hN bi room metal hs ws c (p - 60 * i)) mh (60 * i) (60 * i + (k + 1)))) 8 21 (stg (fun p => wN bi room metal hs ws c (p - 60 * i)) mw (60 * i) (60 * i + (k + 1))) := by
              intro v w hv hw
              rw [← hSt]
              exact Sg_ext (fun k' i' p' => by
                rw [sv_rd, sv_rd, sv_rd, sv_rd, sr_rd, sr_rd, sv_rd, sr_rd, sr_rd, sv_rd]
                by_cases hk8 : k' = 8
                · subst hk8
                  by_cases h21 : i' = 21
                  · subst h21
                    by_cases hp : p' = 60 * i + k
                    · subst hp; simp; rw [stg_in (by omega) (by omega), hw, show 60 * i + k - 60 * i = k by omega]
                    · simp [hp]
                      by_cases hl : 60 * i ≤ p' ∧ p' < 60 * i + k
                      · rw [stg_in hl.1 hl.2, stg_in hl.1 (by omega)]
                      · rw [stg_out (by omega), stg_out (by omega)]
                  by_cases h20 : i' = 20
                  · subst h20
                    by_cases hp : p' = 60 * i + k
                    · subst hp; simp; rw [stg_in (by omega) (by omega), hv, show 60 * i + k - 60 * i = k by omega]
                    · simp [hp]
                      by_cases hl : 60 * i ≤ p' ∧ p' < 60 * i + k
                      · rw [stg_in hl.1 hl.2, stg_in hl.1 (by omega)]
                      · rw [stg_out (by omega), stg_out (by omega)]
                  by_cases h13 : i' = 13 ∧ p' = i
                  · obtain ⟨rfl, rfl⟩ := h13; simp
                  · simp [h21, h20]
                    simp only [if_neg h13]
                · simp [hk8]) rfl
            unfold f_X4_stroke_88 f_X4_stroke_142 f_X4_stroke_170 f_X4_stroke_172
            simp only [h8 hi8, h480 (show 60 * i + k < 480 by omega), if_false, cl8 (show i < 480 by omega), cl8 (show 60 * i + k < 480 by omega), s13, s20, s21, hmh k hkc', hmw k hkc', e13, eBx, nI_1]
            have w21 : ∀ v : Int32, (sv (sv (sv St 8 13 i (ch + Bf bi room hs (k + 1))) 8 21 (60 * i + k) (ws k + metal)) 8 20 (60 * i + k) v).1 8 21 (60 * i + k) = ws k + metal := fun v => by simp [sv_rd]
            have w21' : (sv (sv St 8 13 i (ch + Bf bi room hs (k + 1))) 8 21 (60 * i + k) (ws k + metal)).1 8 21 (60 * i + k) = ws k + metal := by simp [sv_rd]
            rw [show 60 * i + (k + 1) = 60 * i + k + 1 by omega] at hrec
            simp only [w21, w21', sv_rd]
            by_cases hw : ws k + metal < 100
            · have e1 : hs k - 0 = hN bi room metal hs ws c k := by unfold hN; rw [if_pos hstruck, if_pos hw]; grind
              have e2 : ws k + metal - 0 = wN bi room metal hs ws c k := by unfold wN; rw [if_pos hstruck, if_pos hw]; grind
              simp [hw]
              rw [Int32.sub_zero] at e1 e2
              have hfin := fin _ _ e1 e2
              rw [show 60 * i + (k + 1) = 60 * i + k + 1 by omega] at hfin
              rw [hfin]
              exact hrec
            · have e1 : hs k - 1 = hN bi room metal hs ws c k := by unfold hN; rw [if_pos hstruck, if_neg hw]
              have e2 : ws k + metal - 100 = wN bi room metal hs ws c k := by unfold wN; rw [if_pos hstruck, if_neg hw]
              simp [hw]
              have hfin := fin _ _ e1 e2
              rw [show 60 * i + (k + 1) = 60 * i + k + 1 by omega] at hfin
              rw [hfin]
              exact hrec
          simp only [s10]
          by_cases hhm : τ.1 8 10 i ≤ metal
          · rw [if_pos hhm]
            have e0 : bi = 0 := by rw [← hBI]; unfold biF; rw [if_pos hhm]
            exact go 0 (by rw [e0]; grind)
          · rw [if_neg hhm]
            have e0 : bi = 1 + (τ.1 8 10 i - metal) / 10 := by rw [← hBI]; unfold biF; rw [if_neg hhm]
            simp only [d10, if_false, s20, hmh k hkc', m_least, Option.bind_some]
            exact go _ (by rw [← e0]; grind)
/-- r strokes more: the teeth, the chips, what was bitten -/
def runS (bi metal H : Int32) (c : Nat) : Nat → (Nat → Int32) → (Nat → Int32) → Int32 → Int32 → (Nat → Int32) × (Nat → Int32) × Int32 × Int32
  | 0, hs, ws, ch, b => (hs, ws, ch, b)
  | r + 1, hs, ws, ch, b => runS bi metal H c r (hN bi (H - ch) metal hs ws c) (wN bi (H - ch) metal hs ws c) (ch + Bf bi (H - ch) hs c) (b + Bf bi (H - ch) hs c)
def inR (c : Nat) (hs ws : Nat → Int32) : Prop := ∀ k, k < c → (0 ≤ hs k ∧ hs k ≤ 9) ∧ (0 ≤ ws k ∧ ws k ≤ 99)
theorem wn_r {w metal : Int32} (hw : 0 ≤ w ∧ w ≤ 99) (hm : ¬ (metal < 1 ∨ 70 < metal)) : (w + metal < 100 → 0 ≤ w + metal ∧ w + metal ≤ 99) ∧ (¬ w + metal < 100 → 0 ≤ w + metal - 100 ∧ w + metal - 100 ≤ 99) := by
  obtain ⟨k, hk, rfl⟩ := nI_of (Int32.not_lt.mpr hw.1)
  obtain ⟨q, hq, rfl⟩ := nI_of (show ¬ metal < 0 from fun r => hm (Or.inl (Int32.lt_trans r (by decide))))
  have h1 : k ≤ 99 := (nI_leI (b := 99) hk (by decide)).mp hw.2
  have h2 : q ≤ 70 := Nat.not_lt.mp (fun r => hm (Or.inr (nI_lt (a := 70) r hq)))
  rw [nI_add]
  refine ⟨fun r => ⟨nI_pos' (by omega), ?_⟩, fun r => ?_⟩
  · have := (nI_ltI (b := 100) (by omega) (by decide)).mp r
    exact nI_le (b := 99) (by omega) (by decide)
  · have h3 : 100 ≤ k + q := Nat.not_lt.mp (fun x => r (nI_lt (b := 100) x (by decide)))
    show 0 ≤ nI (k + q) - nI 100 ∧ nI (k + q) - nI 100 ≤ 99
    rw [pk_sub h3]
    exact ⟨nI_pos' (by omega), nI_le (b := 99) (by omega) (by decide)⟩
theorem hn_r {x : Int32} (hx : 0 ≤ x ∧ x ≤ 9) (h0 : ¬ x ≤ 0) : 0 ≤ x - 1 ∧ x - 1 ≤ 9 := by
  grind
theorem inR_N {c : Nat} {hs ws : Nat → Int32} (h : inR c hs ws) {bi room metal : Int32} (hm : ¬ (metal < 1 ∨ 70 < metal)) : inR c (hN bi room metal hs ws c) (wN bi room metal hs ws c) := fun k hk => by
  have hb := h k hk
  unfold hN wN
  by_cases hq : k < c ∧ ¬ (room ≤ Bf bi room hs k ∨ hs k ≤ 0)
  · have h0 : ¬ hs k ≤ 0 := fun q => hq.2 (Or.inr q)
    rw [if_pos hq, if_pos hq]
    by_cases hw : ws k + metal < 100
    · rw [if_pos hw, if_pos hw]; exact ⟨hb.1, (wn_r hb.2 hm).1 hw⟩
    · rw [if_neg hw, if_neg hw]; exact ⟨hn_r hb.1 h0, (wn_r hb.2 hm).2 hw⟩
  · rw [if_neg hq, if_neg hq]; exact hb
theorem runS_r {bi metal H : Int32} {c : Nat} (hbi : 0 ≤ bi) (hm : ¬ (metal < 1 ∨ 70 < metal)) (hH : 0 ≤ H ∧ H ≤ 1080) : ∀ (r : Nat) (hs ws : Nat → Int32) (ch b : Int32), inR c hs ws → (0 ≤ ch ∧ ch ≤ 1100) → inR c (runS bi metal H c r hs ws ch b).1 (runS bi metal H c r hs ws ch b).2.1 ∧ (0 ≤ (runS bi metal H c r hs ws ch b).2.2.1 ∧ (runS bi metal H c r hs ws ch b).2.2.1 ≤ 1100) := by
  intro r
  induction r with
  | zero => intro hs ws ch b h1 h2; exact ⟨h1, h2⟩
  | succ r ih =>
    intro hs ws ch b h1 h2
    have hB := (Bf_r (room := H - ch) (hs := hs) (c := c) hbi (fun k hk => (h1 k hk).1) h2 hH rfl) c (Nat.le_refl _)
    exact ih _ _ _ _ (inR_N h1 hm) hB.2.2
/-- the class's state between strokes -/
def CS (σ : Sg) (i : Nat) (hs ws : Nat → Int32) (ch : Int32) : Sg := sv (sr (sr σ 4 i hs) 5 i ws) 1 i 10 ch
theorem CS_rd (σ : Sg) (i : Nat) (hs ws : Nat → Int32) (ch : Int32) (k' i' p' : Nat) : (CS σ i hs ws ch).1 k' i' p' = if k' = 1 ∧ i' = i ∧ p' = 10 then ch else if k' = 5 ∧ i' = i then ws p' else if k' = 4 ∧ i' = i then hs p' else σ.1 k' i' p' := by
  unfold CS; rw [sv_rd, sr_rd, sr_rd]
theorem CS_n (σ : Sg) (i : Nat) (hs ws hs' ws' : Nat → Int32) (ch ch' : Int32) : sv (sr (sr (CS σ i hs ws ch) 4 i hs') 5 i ws') 1 i 10 ch' = CS σ i hs' ws' ch' := Sg_ext (fun k' i' p' => by
  rw [sv_rd, sr_rd, sr_rd, CS_rd, CS_rd]
  by_cases h1 : k' = 1 ∧ i' = i ∧ p' = 10
  · rw [if_pos h1, if_pos h1]
  · rw [if_neg h1, if_neg h1, if_neg h1]
    by_cases h5 : k' = 5 ∧ i' = i
    · rw [if_pos h5, if_pos h5]
    · rw [if_neg h5, if_neg h5, if_neg h5]
      by_cases h4 : k' = 4 ∧ i' = i
      · rw [if_pos h4, if_pos h4]
      · rw [if_neg h4, if_neg h4, if_neg h4]) rfl
theorem CS_0 (σ : Sg) (i : Nat) : CS σ i (σ.1 4 i) (σ.1 5 i) (σ.1 1 i 10) = σ := Sg_ext (fun k' i' p' => by
  rw [CS_rd]
  by_cases h1 : k' = 1 ∧ i' = i ∧ p' = 10
  · rw [if_pos h1, h1.1, h1.2.1, h1.2.2]
  · rw [if_neg h1]
    by_cases h5 : k' = 5 ∧ i' = i
    · rw [if_pos h5, h5.1, h5.2]
    · rw [if_neg h5]
      by_cases h4 : k' = 4 ∧ i' = i
      · rw [if_pos h4, h4.1, h4.2]
      · rw [if_neg h4]) rfl
/-- the bite of what fell in, behind the strokes -/
def btl (τ : Sg) (i : Nat) (mo ea b : Int32) : Sg := if b ≤ 0 then τ else sv τ 1 i 11 (if ea < mo then mo else ea)
theorem btl_rd (τ : Sg) (i : Nat) (mo ea b : Int32) (k' i' p' : Nat) (hp : ¬ (k' = 1 ∧ i' = i ∧ p' = 11)) : (btl τ i mo ea b).1 k' i' p' = τ.1 k' i' p' := by
  unfold btl
  by_cases hb : b ≤ 0
  · rw [if_pos hb]
  · rw [if_neg hb, sv_rd, if_neg hp]
theorem btl_2 (τ : Sg) (i : Nat) (mo ea b : Int32) : (btl τ i mo ea b).2 = τ.2 := by
  unfold btl
  by_cases hb : b ≤ 0
  · rw [if_pos hb]
  · rw [if_neg hb]; rfl
theorem bite_loop (σ : Sg) {i c s : Nat} (hc : c ≤ 60) (hs40 : s ≤ 60) (h3 : σ.1 2 i 3 = nI c) {metal : Int32} (hm : ¬ (metal < 1 ∨ 70 < metal)) (hhd : 0 ≤ σ.1 1 i 7 ∧ σ.1 1 i 7 ≤ 66) (mo ea : Int32) : ∀ (fu t : Nat), t ≤ s → s - t < fu → ∀ (hs ws : Nat → Int32) (ch b : Int32), inR c hs ws →
    f_X2_bite_32 fu (CS σ i hs ws ch) i metal (nI s) mo ea b (nI t) = some ((runS (biF (σ.1 1 i 7) metal) metal ((σ.1 2 i 1 + σ.1 1 i 6) * σ.1 2 i 3) c (s - t) hs ws ch b).2.2.2, sv (btl (CS σ i (runS (biF (σ.1 1 i 7) metal) metal ((σ.1 2 i 1 + σ.1 1 i 6) * σ.1 2 i 3) c (s - t) hs ws ch b).1 (runS (biF (σ.1 1 i 7) metal) metal ((σ.1 2 i 1 + σ.1 1 i 6) * σ.1 2 i 3) c (s - t) hs ws ch b).2.1 (runS (biF (σ.1 1 i 7) metal) metal ((σ.1 2 i 1 + σ.1 1 i 6) * σ.1 2 i 3) c (s - t) hs ws ch b).2.2.1) i mo ea (runS (biF (σ.1 1 i 7) metal) metal ((σ.1 2 i 1 + σ.1 1 i 6) * σ.1 2 i 3) c (s - t) hs ws ch b).2.2.2) 1 i 12 (σ.1 1 i 12 + (runS (biF (σ.1 1 i 7) metal) metal ((σ.1 2 i 1 + σ.1 1 i 6) * σ.1 2 i 3) c (s - t) hs ws ch b).2.2.2)) := by
  intro fu
  induction fu with
  | zero => intro t _ h; omega
  | succ fu ih =>
    intro t ht hf hs ws ch b hin
    show g_X2_bite_32 (f_X2_bite_32 fu) (CS σ i hs ws ch) i metal (nI s) mo ea b (nI t) = _
    unfold g_X2_bite_32
    have r11 : (CS σ i hs ws ch).1 1 i 12 = σ.1 1 i 12 := by rw [CS_rd]; simp
    have r7 : (CS σ i hs ws ch).1 1 i 7 = σ.1 1 i 7 := by rw [CS_rd]; simp
    have r6 : (CS σ i hs ws ch).1 1 i 6 = σ.1 1 i 6 := by rw [CS_rd]; simp
    have r10 : (CS σ i hs ws ch).1 1 i 10 = ch := by rw [CS_rd]; simp
    have r2 : ∀ p, (CS σ i hs ws ch).1 2 i p = σ.1 2 i p := fun p => by rw [CS_rd]; simp
    have r4 : (CS σ i hs ws ch).1 4 i = hs := funext fun p => by rw [CS_rd]; simp
    have r5 : (CS σ i hs ws ch).1 5 i = ws := funext fun p => by rw [CS_rd]; simp
    by_cases hts : t = s
    · subst hts
      rw [if_pos (Int32.le_refl _), Nat.sub_self]
      show _ = some (b, sv (btl (CS σ i hs ws ch) i mo ea b) 1 i 12 (σ.1 1 i 12 + b))
      unfold f_X2_bite_100 btl
      by_cases hb : b ≤ 0
      · rw [if_pos hb, if_pos hb, r11]
      · have e12 : (sv (CS σ i hs ws ch) 1 i 11 (if ea < mo then mo else ea)).1 1 i 12 = σ.1 1 i 12 := by
          rw [sv_rd, if_neg (show ¬ ((1 : Nat) = 1 ∧ i = i ∧ (12 : Nat) = 11) by omega)]
          exact r11
        rw [if_neg hb, if_neg hb, e12]
    · rw [if_neg (nI_ge (show t < s by omega) (by omega))]
      have hst := c_stroke (CS σ i hs ws ch) hc (by rw [r2]; exact h3) (σ.1 1 i 7) ((σ.1 2 i 1 + σ.1 1 i 6) * σ.1 2 i 3 - ch) metal hm (by rw [r4, r5]; exact hin)
      rw [r4, r5] at hst
      unfold f_X2_holds f_X2_holds_0
      simp only [Option.bind_some, r2, r6, r7, r10, hst]
      have r10' : ∀ (g1 g2 : Nat → Int32), (sr (sr (CS σ i hs ws ch) 4 i g1) 5 i g2).1 1 i 10 = ch := fun g1 g2 => by rw [sr_rd, if_neg (by omega), sr_rd, if_neg (by omega)]; exact r10
      simp only [r10', CS_n, nI_1]
      rw [show s - t = (s - (t + 1)) + 1 by omega]
      exact ih (t + 1) (by omega) (by omega) _ _ _ _ (inR_N hin hm)
/-- the reference's state between strokes -/
def MS (τ : Sg) (i c : Nat) (hs ws : Nat → Int32) (ch : Int32) : Sg := sr (sr (sv τ 8 13 i ch) 8 20 (stg (fun p => hs (p - 60 * i)) (τ.1 8 20) (60 * i) (60 * i + c))) 8 21 (stg (fun p => ws (p - 60 * i)) (τ.1 8 21) (60 * i) (60 * i + c))
theorem MS_rd (τ : Sg) (i c : Nat) (hs ws : Nat → Int32) (ch : Int32) (k' i' p' : Nat) : (MS τ i c hs ws ch).1 k' i' p' = if k' = 8 ∧ i' = 21 then stg (fun p => ws (p - 60 * i)) (τ.1 8 21) (60 * i) (60 * i + c) p' else if k' = 8 ∧ i' = 20 then stg (fun p => hs (p - 60 * i)) (τ.1 8 20) (60 * i) (60 * i + c) p' else if k' = 8 ∧ i' = 13 ∧ p' = i then ch else τ.1 k' i' p' := by
  unfold MS; rw [sr_rd, sr_rd, sv_rd]
theorem stg_2 (F F' g : Nat → Int32) (lo hi : Nat) : stg F' (stg F g lo hi) lo hi = stg F' g lo hi := funext fun p => by
  by_cases h : lo ≤ p ∧ p < hi
  · rw [stg_in h.1 h.2, stg_in h.1 h.2]
  · rw [stg_out (by omega), stg_out (by omega), stg_out (by omega)]
theorem MS_n (τ : Sg) (i c : Nat) (hs ws hs' ws' : Nat → Int32) (ch ch' : Int32) : sr (sr (sv (MS τ i c hs ws ch) 8 13 i ch') 8 20 (stg (fun p => hs' (p - 60 * i)) ((MS τ i c hs ws ch).1 8 20) (60 * i) (60 * i + c))) 8 21 (stg (fun p => ws' (p - 60 * i)) ((MS τ i c hs ws ch).1 8 21) (60 * i) (60 * i + c)) = MS τ i c hs' ws' ch' := by
  have e20 : (MS τ i c hs ws ch).1 8 20 = stg (fun p => hs (p - 60 * i)) (τ.1 8 20) (60 * i) (60 * i + c) := funext fun p => by rw [MS_rd]; simp
  have e21 : (MS τ i c hs ws ch).1 8 21 = stg (fun p => ws (p - 60 * i)) (τ.1 8 21) (60 * i) (60 * i + c) := funext fun p => by rw [MS_rd]; simp
  rw [e20, e21, stg_2, stg_2]
  exact Sg_ext (fun k' i' p' => by
    rw [sr_rd, sr_rd, sv_rd, MS_rd, MS_rd]
    by_cases h1 : k' = 8 ∧ i' = 21
    · rw [if_pos h1, if_pos h1]
    · rw [if_neg h1, if_neg h1, if_neg h1]
      by_cases h5 : k' = 8 ∧ i' = 20
      · rw [if_pos h5, if_pos h5]
      · rw [if_neg h5, if_neg h5, if_neg h5]
        by_cases h4 : k' = 8 ∧ i' = 13 ∧ p' = i
        · rw [if_pos h4, if_pos h4]
        · rw [if_neg h4, if_neg h4, if_neg h4]) rfl
theorem m_stroke (τ : Sg) {i c : Nat} (hi8 : i < 8) (hc : c ≤ 60) (hR : RH τ i) (h16 : τ.1 8 16 i = nI c) {ch metal : Int32} (hm : ¬ (metal < 1 ∨ 70 < metal)) (hch : 0 ≤ ch ∧ ch ≤ 1100) (hH : 0 ≤ (τ.1 2 i 1 + τ.1 1 i 6) * τ.1 2 i 3 ∧ (τ.1 2 i 1 + τ.1 1 i 6) * τ.1 2 i 3 ≤ 1080) (hhd : 0 ≤ τ.1 8 10 i ∧ τ.1 8 10 i ≤ 66) (hs ws : Nat → Int32) (hb : inR c hs ws) :
    f_X4_stroke (MS τ i c hs ws ch) (nI i) metal = some (Bf (biF (τ.1 8 10 i) metal) ((τ.1 2 i 1 + τ.1 1 i 6) * τ.1 2 i 3 - ch) hs c, MS τ i c (hN (biF (τ.1 8 10 i) metal) ((τ.1 2 i 1 + τ.1 1 i 6) * τ.1 2 i 3 - ch) metal hs ws c) (wN (biF (τ.1 8 10 i) metal) ((τ.1 2 i 1 + τ.1 1 i 6) * τ.1 2 i 3 - ch) metal hs ws c) (ch + Bf (biF (τ.1 8 10 i) metal) ((τ.1 2 i 1 + τ.1 1 i 6) * τ.1 2 i 3 - ch) hs c)) := by
  have e1 : ∀ p, (MS τ i c hs ws ch).1 1 i p = τ.1 1 i p := fun p => by rw [MS_rd]; simp
  have e2 : ∀ p, (MS τ i c hs ws ch).1 2 i p = τ.1 2 i p := fun p => by rw [MS_rd]; simp
  have e8 : ∀ f p, ¬ f = 13 → ¬ f = 20 → ¬ f = 21 → (MS τ i c hs ws ch).1 8 f p = τ.1 8 f p := fun f p f1 f2 f3 => by rw [MS_rd]; simp [f1, f2, f3]
  have e20 : ∀ k, k < c → (MS τ i c hs ws ch).1 8 20 (60 * i + k) = hs k := fun k hk => by rw [MS_rd]; simp; rw [stg_in (by omega) (by omega)]; show hs (60 * i + k - 60 * i) = _; rw [show 60 * i + k - 60 * i = k by omega]
  have e21 : ∀ k, k < c → (MS τ i c hs ws ch).1 8 21 (60 * i + k) = ws k := fun k hk => by rw [MS_rd]; simp; rw [stg_in (by omega) (by omega)]; show ws (60 * i + k - 60 * i) = _; rw [show 60 * i + k - 60 * i = k by omega]
  have e13 : (MS τ i c hs ws ch).1 8 13 i = ch := by rw [MS_rd]; simp
  have hR' : RH (MS τ i c hs ws ch) i := by
    unfold RH at hR ⊢
    rw [e1, e1, e2, e2, e8 16 i (by decide) (by decide) (by decide), e8 2 i (by decide) (by decide) (by decide), e8 9 i (by decide) (by decide) (by decide), e8 3 i (by decide) (by decide) (by decide)]
    exact hR
  have h := mstroke_loop (MS τ i c hs ws ch) hi8 hc hR' (by rw [e8 16 i (by decide) (by decide) (by decide)]; exact h16) hm hch (by rw [e1, e2, e2]; exact hH) (room := (τ.1 2 i 1 + τ.1 1 i 6) * τ.1 2 i 3 - ch) (by rw [e1, e2, e2]) (by rw [e8 10 i (by decide) (by decide) (by decide)]; exact hhd) hs ws ((MS τ i c hs ws ch).1 8 20) ((MS τ i c hs ws ch).1 8 21) e20 e21 hb 70 0 (Nat.zero_le _) (by omega)
  rw [e8 10 i (by decide) (by decide) (by decide), MS_n] at h
  have h0 : sr (sr (sv (MS τ i c hs ws ch) 8 13 i (ch + Bf (biF (τ.1 8 10 i) metal) ((τ.1 2 i 1 + τ.1 1 i 6) * τ.1 2 i 3 - ch) hs 0)) 8 20 (stg (fun p => hN (biF (τ.1 8 10 i) metal) ((τ.1 2 i 1 + τ.1 1 i 6) * τ.1 2 i 3 - ch) metal hs ws c (p - 60 * i)) ((MS τ i c hs ws ch).1 8 20) (60 * i) (60 * i + 0))) 8 21 (stg (fun p => wN (biF (τ.1 8 10 i) metal) ((τ.1 2 i 1 + τ.1 1 i 6) * τ.1 2 i 3 - ch) metal hs ws c (p - 60 * i)) ((MS τ i c hs ws ch).1 8 21) (60 * i) (60 * i + 0)) = MS τ i c hs ws ch := by
    rw [Nat.add_zero, stg_e, stg_e]
    exact Sg_ext (fun k' i' p' => by
      rw [sr_rd, sr_rd, sv_rd]
      by_cases h1 : k' = 8 ∧ i' = 21
      · rw [if_pos h1, h1.1, h1.2]
      · rw [if_neg h1]
        by_cases h5 : k' = 8 ∧ i' = 20
        · rw [if_pos h5, h5.1, h5.2]
        · rw [if_neg h5]
          by_cases h4 : k' = 8 ∧ i' = 13 ∧ p' = i
          · rw [if_pos h4, h4.1, h4.2.1, h4.2.2, e13]
            show ch + 0 = ch
            exact Int32.add_zero ch
          · rw [if_neg h4]) rfl
  rw [h0] at h
  unfold f_X4_stroke f_X4_stroke_0
  rw [n60]
  exact h
theorem strokes_loop (τ : Sg) {i c s : Nat} (hi8 : i < 8) (hc : c ≤ 60) (hs60 : s ≤ 60) (hR : RH τ i) (h16 : τ.1 8 16 i = nI c) {metal : Int32} (hm : ¬ (metal < 1 ∨ 70 < metal)) (hH : 0 ≤ (τ.1 2 i 1 + τ.1 1 i 6) * τ.1 2 i 3 ∧ (τ.1 2 i 1 + τ.1 1 i 6) * τ.1 2 i 3 ≤ 1080) (hhd : 0 ≤ τ.1 8 10 i ∧ τ.1 8 10 i ≤ 66) : ∀ (fu t : Nat), t ≤ s → s - t < fu → ∀ (hs ws : Nat → Int32) (ch b : Int32), inR c hs ws → (0 ≤ ch ∧ ch ≤ 1100) →
    f_X4_strokes_70 fu (MS τ i c hs ws ch) (nI i) metal (nI s) b (nI t) = some ((runS (biF (τ.1 8 10 i) metal) metal ((τ.1 2 i 1 + τ.1 1 i 6) * τ.1 2 i 3) c (s - t) hs ws ch b).2.2.2, sv (MS τ i c (runS (biF (τ.1 8 10 i) metal) metal ((τ.1 2 i 1 + τ.1 1 i 6) * τ.1 2 i 3) c (s - t) hs ws ch b).1 (runS (biF (τ.1 8 10 i) metal) metal ((τ.1 2 i 1 + τ.1 1 i 6) * τ.1 2 i 3) c (s - t) hs ws ch b).2.1 (runS (biF (τ.1 8 10 i) metal) metal ((τ.1 2 i 1 + τ.1 1 i 6) * τ.1 2 i 3) c (s - t) hs ws ch b).2.2.1) 8 14 i (τ.1 8 14 i + (runS (biF (τ.1 8 10 i) metal) metal ((τ.1 2 i 1 + τ.1 1 i 6) * τ.1 2 i 3) c (s - t) hs ws ch b).2.2.2)) := by
  have hbi := biF_r _ _ hhd hm
  intro fu
  induction fu with
  | zero => intro t _ h; omega
  | succ fu ih =>
    intro t ht hf hs ws ch b hin hch
    show g_X4_strokes_70 (f_X4_strokes_70 fu) (MS τ i c hs ws ch) (nI i) metal (nI s) b (nI t) = _
    unfold g_X4_strokes_70
    by_cases hts : t = s
    · subst hts
      have r14 : (MS τ i c hs ws ch).1 8 14 i = τ.1 8 14 i := by rw [MS_rd]; simp
      rw [if_pos (Int32.le_refl _), Nat.sub_self]
      simp only [h8 hi8, if_false, cl8 (show i < 480 by omega), r14]
      rfl
    · rw [if_neg (nI_ge (show t < s by omega) (by omega)), m_stroke τ hi8 hc hR h16 hm hch hH hhd hs ws hin]
      simp only [Option.bind_some, nI_1]
      rw [show s - t = (s - (t + 1)) + 1 by omega]
      have hB := (Bf_r (room := (τ.1 2 i 1 + τ.1 1 i 6) * τ.1 2 i 3 - ch) (hs := hs) (c := c) hbi (fun k hk => (hin k hk).1) hch hH rfl) c (Nat.le_refl _)
      exact ih (t + 1) (by omega) (by omega) _ _ _ _ (inR_N hin hm) hB.2.2
theorem OK_strokes {σ : Sg} {n m : Nat} (h : RN n m σ) (a b d : Int32) : OK (f_L_strokes σ a b d) (fun τ => f_X4_strokes τ a b d) := by
  rcases t_cases h a with hd | ⟨i, hi, hi8, rfl, hg, hf, hT⟩
  · exact OK.dead h (X_strokes h hd _ _) (M_strokes h.n8 h.c7 hd _ _)
  have hRH := hT.holds
  obtain ⟨hA, hB, hW, hG, c, hc, hC1, hC2, hC3, hC4⟩ := hT
  have hm := m_none σ h.n8 h.c7 hi hg
  have hn := cl8 (show i < 480 by omega)
  have hA' := hA
  obtain ⟨a2, a5, a7, a6, a4, a9, a10, a11, a13, a14, a15, a16, a17⟩ := hA'
  have hbad : ∀ (v : Int32), ¬ v = 0 → (hL : f_L_strokes σ (nI i) b d = some (v, σ)) → (hM : f_X4_strokes σ (nI i) b d = some (0, sv (sv σ 7 0 0 0) 7 0 0 v)) → OK (f_L_strokes σ (nI i) b d) (fun τ => f_X4_strokes τ (nI i) b d) := fun v hv hL hM => OK.no h v ((Lq.rf σ).t 0) (τ := σ) (b := 0) hL hM hv
  by_cases q0 : b < 1 ∨ 70 < b
  · refine hbad 2 (by decide) ?_ ?_
    · unfold f_L_strokes f_X3_strokes f_X3_strokes_0
      simp only [t_live σ hi8 hf, bx_r, bx_l, c_in, if_pos q0]; rfl
    · simp only [f_X4_strokes, f_X4_strokes_0, f_X4_strokes_29, f_X4_strokes_49, hm, Option.bind_some, if_true, m_bt, if_pos q0, w_2, if_neg one_ne]
  by_cases q1 : d < 1 ∨ 40 < d
  · refine hbad 2 (by decide) ?_ ?_
    · unfold f_L_strokes f_X3_strokes f_X3_strokes_0
      simp only [t_live σ hi8 hf, bx_r, bx_l, c_in, if_neg q0, if_pos q1]; rfl
    · simp only [f_X4_strokes, f_X4_strokes_0, f_X4_strokes_29, f_X4_strokes_49, hm, Option.bind_some, if_true, m_bt, if_neg q0, if_pos q1, w_2, if_neg one_ne]
  by_cases q2 : σ.1 1 i 4 = 104
  case neg =>
    refine hbad 3 (by decide) ?_ ?_
    · unfold f_L_strokes f_X3_strokes f_X3_strokes_0
      simp only [t_live σ hi8 hf, bx_r, bx_l, c_in, if_neg q0, if_neg q1, c_hard, if_neg q2]; rfl
    · simp only [f_X4_strokes, f_X4_strokes_0, f_X4_strokes_29, f_X4_strokes_49, hm, Option.bind_some, if_true, m_bt, if_neg q0, if_neg q1, w_3, if_neg one_ne, hn, h8 hi8, if_false, t8, a4, if_neg q2]
  obtain ⟨s, hs31, rfl⟩ := nI_of (show ¬ d < 0 from fun r => q1 (Or.inl (Int32.lt_trans r (by decide))))
  have hs40 : s ≤ 40 := Nat.not_lt.mp (fun r => q1 (Or.inr (nI_lt (a := 40) r hs31)))
  have hpos : 0 < c := Nat.pos_of_ne_zero (fun q => hB.2.2.2.2.2.2.2.2.2.2 q2 (by rw [hC1, q]; decide))
  have hdep : 0 ≤ σ.1 2 i 1 ∧ σ.1 2 i 1 ≤ 9 := by
    have := depthF_r (σ.1 2 i 0) (σ.1 1 i 0)
    rw [(hC3 hpos).2.2.1]
    exact ⟨Int32.le_trans (by decide) this.1, this.2⟩
  have hH : 0 ≤ (σ.1 2 i 1 + σ.1 1 i 6) * σ.1 2 i 3 ∧ (σ.1 2 i 1 + σ.1 1 i 6) * σ.1 2 i 3 ≤ 1080 := by rw [hC1]; exact holds_r hdep hB.2.2.2.2.2.1 hc
  have hhd := hB.2.2.2.2.2.2.2.1
  have hin : inR c (σ.1 4 i) (σ.1 5 i) := fun k hk => (hC4 k hk).2.2.2
  have hch := hB.2.2.2.2.2.2.2.2.1
  generalize hrun : runS (biF (σ.1 1 i 7) b) b ((σ.1 2 i 1 + σ.1 1 i 6) * σ.1 2 i 3) c s (σ.1 4 i) (σ.1 5 i) (σ.1 1 i 10) 0 = X
  obtain ⟨hs', ws', ch', b'⟩ := X
  have hXr := runS_r (biF_r _ _ hhd q0) q0 hH s (σ.1 4 i) (σ.1 5 i) (σ.1 1 i 10) 0 hin hch
  rw [hrun] at hXr
  -- the class
  obtain ⟨mo, hgr⟩ := c_great (sv σ 1 i 9 0) (i := i) hc (show (sv σ 1 i 9 0).1 2 i 3 = nI c from hC1)
  generalize hea : (if σ.1 1 i 10 ≤ 0 then (0 : Int32) else σ.1 1 i 11) = ea
  have hcl := bite_loop (sv σ 1 i 9 0) (i := i) (s := s) hc (by omega) (show (sv σ 1 i 9 0).1 2 i 3 = nI c from hC1) q0 (show 0 ≤ (sv σ 1 i 9 0).1 1 i 7 ∧ (sv σ 1 i 9 0).1 1 i 7 ≤ 66 by simp [sv_rd]; exact hhd) mo ea 70 0 (Nat.zero_le _) (by omega) (σ.1 4 i) (σ.1 5 i) (σ.1 1 i 10) 0 hin
  have r7 : (sv σ 1 i 9 0).1 1 i 7 = σ.1 1 i 7 := by simp [sv_rd]
  have r6 : (sv σ 1 i 9 0).1 1 i 6 = σ.1 1 i 6 := by simp [sv_rd]
  have r11 : (sv σ 1 i 9 0).1 1 i 12 = σ.1 1 i 12 := by simp [sv_rd]
  have r2 : ∀ p, (sv σ 1 i 9 0).1 2 i p = σ.1 2 i p := fun p => rfl
  rw [r7, r6, r11, r2, r2, Nat.sub_zero, hrun, show CS (sv σ 1 i 9 0) i (σ.1 4 i) (σ.1 5 i) (σ.1 1 i 10) = sv σ 1 i 9 0 by
    have := CS_0 (sv σ 1 i 9 0) i
    rw [show (sv σ 1 i 9 0).1 4 i = σ.1 4 i from rfl, show (sv σ 1 i 9 0).1 5 i = σ.1 5 i from rfl, show (sv σ 1 i 9 0).1 1 i 10 = σ.1 1 i 10 by simp [sv_rd]] at this
    exact this] at hcl
  generalize hσ1 : sv (btl (CS (sv σ 1 i 9 0) i hs' ws' ch') i mo ea b') 1 i 12 (σ.1 1 i 12 + b') = σ1 at hcl
  have s1 : ∀ p, ¬ p = 11 → σ1.1 1 i p = if p = 12 then σ.1 1 i 12 + b' else if p = 10 then ch' else if p = 9 then 0 else σ.1 1 i p := fun p hp => by rw [← hσ1, sv_rd, btl_rd _ _ _ _ _ _ _ _ (fun q => hp q.2.2), CS_rd, sv_rd]; simp
  have s2 : ∀ p, σ1.1 2 i p = σ.1 2 i p := fun p => by rw [← hσ1, sv_rd, btl_rd _ _ _ _ _ _ _ _ (by omega), CS_rd, sv_rd]; simp
  have s3 : ∀ p, σ1.1 3 i p = σ.1 3 i p := fun p => by rw [← hσ1, sv_rd, btl_rd _ _ _ _ _ _ _ _ (by omega), CS_rd, sv_rd]; simp
  have s4 : ∀ p, σ1.1 4 i p = hs' p := fun p => by rw [← hσ1, sv_rd, btl_rd _ _ _ _ _ _ _ _ (by omega), CS_rd, sv_rd]; simp
  have s5 : ∀ p, σ1.1 5 i p = ws' p := fun p => by rw [← hσ1, sv_rd, btl_rd _ _ _ _ _ _ _ _ (by omega), CS_rd, sv_rd]; simp
  have s8 : ∀ f p, σ1.1 8 f p = σ.1 8 f p := fun f p => by rw [← hσ1, sv_rd, btl_rd _ _ _ _ _ _ _ _ (by omega), CS_rd, sv_rd]; simp
  have s7 : ∀ f p, σ1.1 7 f p = σ.1 7 f p := fun f p => by rw [← hσ1, sv_rd, btl_rd _ _ _ _ _ _ _ _ (by omega), CS_rd, sv_rd]; simp
  have s10 : ∀ f p, σ1.1 10 f p = σ.1 10 f p := fun f p => by rw [← hσ1, sv_rd, btl_rd _ _ _ _ _ _ _ _ (by omega), CS_rd, sv_rd]; simp
  have sz : σ1.2 = σ.2 := by rw [← hσ1, sv_2, btl_2]; rfl
  have hL1 : Lc i σ σ1 := by
    intro k i' p ho
    rw [← hσ1, sv_rd, if_neg (by unfold own at ho; omega), btl_rd _ _ _ _ _ _ _ _ (by unfold own at ho; omega), CS_rd, if_neg (by unfold own at ho; omega), if_neg (by unfold own at ho; omega), if_neg (by unfold own at ho; omega), sv_rd, if_neg (by unfold own at ho; omega)]
  clear hσ1
  -- the reference
  generalize hτ1 : sv (sv (sv (svo σ1 b'.toInt64) 7 0 0 0) 7 0 0 0) 8 18 i 0 = τ1
  have u8 : ∀ f p, ¬ f = 18 → τ1.1 8 f p = σ.1 8 f p := fun f p hf => by rw [← hτ1]; simp [sv_rd, svo_1, hf, s8]
  have u1 : ∀ p, τ1.1 1 i p = σ1.1 1 i p := fun p => by rw [← hτ1]; simp [sv_rd, svo_1]
  have u2 : ∀ p, τ1.1 2 i p = σ.1 2 i p := fun p => by rw [← hτ1]; simp [sv_rd, svo_1, s2]
  have hR1 : RH τ1 i := by
    unfold RH at hRH ⊢
    rw [u8 16 i (by decide), u8 2 i (by decide), u8 9 i (by decide), u8 3 i (by decide), u2, u2, u1, u1, s1 _ (by decide), s1 _ (by decide)]
    exact hRH
  have e6 : τ1.1 1 i 6 = σ.1 1 i 6 := by rw [u1, s1 _ (by decide)]; simp
  have e10 : τ1.1 8 10 i = σ.1 1 i 7 := by rw [u8 10 i (by decide), a10]
  have hml := strokes_loop τ1 (i := i) (c := c) (s := s) hi8 hc (by omega) hR1 (by rw [u8 16 i (by decide), a16, hC1]) q0 (by rw [u2, u2, e6]; exact hH) (by rw [e10]; exact hhd) 70 0 (Nat.zero_le _) (by omega) (σ.1 4 i) (σ.1 5 i) (σ.1 1 i 10) 0 hin hch
  rw [e10, e6, u2, u2, Nat.sub_zero, hrun, u8 14 i (by decide), a14] at hml
  have hMS0 : MS τ1 i c (σ.1 4 i) (σ.1 5 i) (σ.1 1 i 10) = τ1 := Sg_ext (fun k' i' p' => by
    rw [MS_rd]
    by_cases h1 : k' = 8 ∧ i' = 21
    · rw [if_pos h1, h1.1, h1.2]
      by_cases hp : 60 * i ≤ p' ∧ p' < 60 * i + c
      · rw [stg_in hp.1 hp.2, u8 21 p' (by decide)]
        have := (hC4 (p' - 60 * i) (by omega)).2.2.1
        rw [show 60 * i + (p' - 60 * i) = p' by omega] at this
        exact this.symm
      · rw [stg_out (by omega)]
    · rw [if_neg h1]
      by_cases h5 : k' = 8 ∧ i' = 20
      · rw [if_pos h5, h5.1, h5.2]
        by_cases hp : 60 * i ≤ p' ∧ p' < 60 * i + c
        · rw [stg_in hp.1 hp.2, u8 20 p' (by decide)]
          have := (hC4 (p' - 60 * i) (by omega)).2.1
          rw [show 60 * i + (p' - 60 * i) = p' by omega] at this
          exact this.symm
        · rw [stg_out (by omega)]
      · rw [if_neg h5]
        by_cases h4 : k' = 8 ∧ i' = 13 ∧ p' = i
        · rw [if_pos h4, h4.1, h4.2.1, h4.2.2, u8 13 i (by decide), a13]
        · rw [if_neg h4]) rfl
  rw [hMS0] at hml
  refine OK.mut h hi (v := b') (τ := svo σ1 b'.toInt64) (τ2 := sv (MS τ1 i c hs' ws' ch') 8 14 i (σ.1 1 i 12 + b')) ?_ ?_ ?_ ?_ ?_ ?_ ?_
  · have hcl' : f_X2_bite_32 70 (sv σ 1 i 9 0) i b (nI s) mo ea 0 0 = some (b', σ1) := hcl
    have hbt : f_X2_bite σ i b (nI s) = some (b', σ1) := by
      unfold f_X2_bite f_X2_bite_0 f_X2_cool f_X2_cool_0 f_X2_bite_24
      simp only [Option.bind_some, hgr]
      rw [show (sv σ 1 i 9 0).1 1 i 10 = σ.1 1 i 10 by simp [sv_rd], show (sv σ 1 i 9 0).1 1 i 11 = σ.1 1 i 11 by simp [sv_rd]]
      by_cases hq : σ.1 1 i 10 ≤ 0
      · rw [if_pos hq] at hea ⊢; rw [← hea] at hcl'; exact hcl'
      · rw [if_neg hq] at hea ⊢; rw [← hea] at hcl'; exact hcl'
    unfold f_L_strokes f_X3_strokes f_X3_strokes_0
    simp only [t_live σ hi8 hf, bx_r, bx_l, c_in, if_neg q0, if_neg q1, c_hard, if_pos q2, Option.bind_some, hbt]
  · have hm := m_none (svo σ1 b'.toInt64) h.n8 (by rw [svo_1, s7]; exact h.c7) hi (by rw [svo_1, s8]; exact hg)
    simp only [f_X4_strokes, f_X4_strokes_0, f_X4_strokes_29, f_X4_strokes_49, hm, Option.bind_some, if_true, m_bt, if_neg q0, if_neg q1, w_0, if_neg one_ne, hn, h8 hi8, if_false, t8, svo_1, s8, a4, if_pos q2, vb0]
    rw [hτ1]
    exact hml
  · rw [sv_rd, if_neg (by omega), MS_rd, if_neg (by omega), if_neg (by omega), if_neg (by omega), ← hτ1]; simp [sv_rd]
  · show τ1.2.2.1 = _
    rw [← hτ1]; rfl
  · show τ1.2.1 = _
    rw [← hτ1]
    show σ1.2.1 = _
    rw [sz]
  · intro k i' p ho
    rw [sv_rd, if_neg (by unfold own at ho; omega), MS_rd]
    by_cases e21 : k = 8 ∧ i' = 21
    · rw [if_pos e21, stg_out (by unfold own at ho; omega), e21.1, e21.2, u8 21 p (by decide)]
    rw [if_neg e21]
    by_cases e20 : k = 8 ∧ i' = 20
    · rw [if_pos e20, stg_out (by unfold own at ho; omega), e20.1, e20.2, u8 20 p (by decide)]
    rw [if_neg e20, if_neg (by unfold own at ho; omega), ← hτ1, sv_rd, if_neg (by unfold own at ho; omega), sv_rd, if_neg (by unfold own at ho; omega), sv_rd, if_neg (by unfold own at ho; omega), svo_1]
    exact hL1 k i' p ho
  · have v8 : ∀ f p, ¬ f = 18 → ¬ f = 13 → ¬ f = 14 → ¬ f = 20 → ¬ f = 21 → (sv (MS τ1 i c hs' ws' ch') 8 14 i (σ.1 1 i 12 + b')).1 8 f p = σ.1 8 f p := fun f p f18 f13 f14 f20 f21 => by
      rw [sv_rd, MS_rd]; simp [f13, f14, f20, f21, u8 f p f18]
    have v1 : ∀ p, (sv (MS τ1 i c hs' ws' ch') 8 14 i (σ.1 1 i 12 + b')).1 1 i p = σ1.1 1 i p := fun p => by
      rw [sv_rd, MS_rd]; simp [u1]
    have v2 : ∀ p, (sv (MS τ1 i c hs' ws' ch') 8 14 i (σ.1 1 i 12 + b')).1 2 i p = σ.1 2 i p := fun p => by
      rw [sv_rd, MS_rd]; simp [u2]
    have v3 : ∀ p, (sv (MS τ1 i c hs' ws' ch') 8 14 i (σ.1 1 i 12 + b')).1 3 i p = σ.1 3 i p := fun p => by
      rw [sv_rd, MS_rd, ← hτ1]; simp [sv_rd, svo_1, s3]
    have v4 : ∀ p, (sv (MS τ1 i c hs' ws' ch') 8 14 i (σ.1 1 i 12 + b')).1 4 i p = hs' p := fun p => by
      rw [sv_rd, MS_rd, ← hτ1]; simp [sv_rd, svo_1, s4]
    have v5 : ∀ p, (sv (MS τ1 i c hs' ws' ch') 8 14 i (σ.1 1 i 12 + b')).1 5 i p = ws' p := fun p => by
      rw [sv_rd, MS_rd, ← hτ1]; simp [sv_rd, svo_1, s5]
    have v10 : (sv (MS τ1 i c hs' ws' ch') 8 14 i (σ.1 1 i 12 + b')).1 10 0 i = σ.1 10 0 i := by
      rw [sv_rd, MS_rd, ← hτ1]; simp [sv_rd, svo_1, s10]
    have v18 : (sv (MS τ1 i c hs' ws' ch') 8 14 i (σ.1 1 i 12 + b')).1 8 18 i = 0 := by
      rw [sv_rd, MS_rd, ← hτ1]; simp [sv_rd]
    have v13 : (sv (MS τ1 i c hs' ws' ch') 8 14 i (σ.1 1 i 12 + b')).1 8 13 i = ch' := by
      rw [sv_rd, MS_rd]; simp
    have v14 : (sv (MS τ1 i c hs' ws' ch') 8 14 i (σ.1 1 i 12 + b')).1 8 14 i = σ.1 1 i 12 + b' := by
      rw [sv_rd]; simp
    have v20 : ∀ k, k < c → (sv (MS τ1 i c hs' ws' ch') 8 14 i (σ.1 1 i 12 + b')).1 8 20 (60 * i + k) = hs' k := fun k hk => by
      rw [sv_rd, if_neg (by omega), MS_rd, if_neg (by omega), if_pos ⟨rfl, rfl⟩, stg_in (by omega) (by omega), show 60 * i + k - 60 * i = k by omega]
    have v21 : ∀ k, k < c → (sv (MS τ1 i c hs' ws' ch') 8 14 i (σ.1 1 i 12 + b')).1 8 21 (60 * i + k) = ws' k := fun k hk => by
      rw [sv_rd, if_neg (by omega), MS_rd, if_pos ⟨rfl, rfl⟩, stg_in (by omega) (by omega), show 60 * i + k - 60 * i = k by omega]
    generalize sv (MS τ1 i c hs' ws' ch') 8 14 i (σ.1 1 i 12 + b') = τ2 at v8 v1 v2 v3 v4 v5 v10 v18 v13 v14 v20 v21
    refine ⟨?_, ?_, ?_, ?_, c, hc, by rw [v2]; exact hC1, by simp only [v2]; exact hC2, ?_, fun k hk => ?_⟩
    · unfold RA
      rw [v13, v14, v8 2 i (by decide) (by decide) (by decide) (by decide) (by decide), v8 5 i (by decide) (by decide) (by decide) (by decide) (by decide), v8 7 i (by decide) (by decide) (by decide) (by decide) (by decide), v8 6 i (by decide) (by decide) (by decide) (by decide) (by decide), v8 4 i (by decide) (by decide) (by decide) (by decide) (by decide), v8 9 i (by decide) (by decide) (by decide) (by decide) (by decide), v8 10 i (by decide) (by decide) (by decide) (by decide) (by decide), v8 11 i (by decide) (by decide) (by decide) (by decide) (by decide), v8 15 i (by decide) (by decide) (by decide) (by decide) (by decide), v8 16 i (by decide) (by decide) (by decide) (by decide) (by decide), v8 17 i (by decide) (by decide) (by decide) (by decide) (by decide)]
      simp [v1, v2, s1, a2, a5, a7, a6, a4, a9, a10, a11, a15, a16, a17]
    · unfold RB at hB ⊢
      simp [v1, v2, s1]
      obtain ⟨g1, g2, g3, g4, g5, g6, g7, g8, g9, g10, g11⟩ := hB
      exact ⟨g1, g2, g3, g4, g5, g6, g7, g8, hXr.2, g10, g11⟩
    · unfold RW
      exact Or.inl ⟨v18, by rw [v1, s1 _ (by decide)]; simp⟩
    · unfold RG at hG ⊢
      rw [v10, v8 19 i (by decide) (by decide) (by decide) (by decide) (by decide)]
      exact hG
    · simp only [v2, v1, v8 3 i (by decide) (by decide) (by decide) (by decide) (by decide), v8 8 i (by decide) (by decide) (by decide) (by decide) (by decide)]
      rw [show σ1.1 1 i 0 = σ.1 1 i 0 by rw [s1 _ (by decide)]; simp]
      exact hC3
    · unfold RK
      rw [v2, v2, v3, v4, v5, v20 k hk, v21 k hk]
      exact ⟨(hC4 k hk).1, rfl, rfl, hXr.1 k hk⟩
theorem sub_lt20 {L e : Nat} (hL : L < 200) (he : e < 20) : nI L - 2 - nI e < 20 ↔ (L : Int) - 2 - e < 20 := by
  have h1 : (nI L - 2 - nI e).toInt = (L : Int) - 2 - e := by
    rw [show nI L - 2 - nI e = nI L - nI (2 + e) by rw [← nI_add]; show nI L - nI 2 - nI e = _; grind, pk_sub_toInt (by omega) (by omega)]
    omega
  rw [Int32.lt_iff_toInt_lt, h1, show (20 : Int32).toInt = 20 by decide]
theorem rl_loop (τ : Sg) {i e : Nat} (hi8 : i < 8) {x2 : Int32} (he3 : 3 ≤ e) (he9 : e ≤ 9) (hd : depthF x2 (τ.1 8 2 i) = nI e) : ∀ (fu L many : Nat), L < 200 → L < 20 + 5 * fu → f_X4_recutsLeft_68 (fu + 1) τ (nI i) x2 (nI e) (nI L) (nI many) = some (nI (many + (L - 20) / (e + 2)), τ) := by
  intro fu
  induction fu with
  | zero =>
    intro L many hL hf
    show g_X4_recutsLeft_68 (f_X4_recutsLeft_68 0) τ (nI i) x2 (nI e) (nI L) (nI many) = _
    unfold g_X4_recutsLeft_68
    rw [if_pos ((sub_lt20 hL (by omega)).mpr (by omega)), show L - 20 = 0 by omega, Nat.zero_div, Nat.add_zero]
  | succ fu ih =>
    intro L many hL hf
    show g_X4_recutsLeft_68 (f_X4_recutsLeft_68 (fu + 1)) τ (nI i) x2 (nI e) (nI L) (nI many) = _
    unfold g_X4_recutsLeft_68
    by_cases hc : (L : Int) - 2 - e < 20
    · rw [if_pos ((sub_lt20 hL (by omega)).mpr hc), Nat.div_eq_of_lt (show L - 20 < e + 2 by omega), Nat.add_zero]
    · rw [if_neg (fun q => hc ((sub_lt20 hL (by omega)).mp q))]
      simp only [h8 hi8, if_false, cl8 (show i < 480 by omega), m_depthOf, Option.bind_some, hd, nI_1]
      have hsub : nI L - (2 + nI e) = nI (L - (2 + e)) := by
        show nI L - (nI 2 + nI e) = _
        rw [nI_add, pk_sub (by omega)]
      rw [hsub, ih (L - (2 + e)) (many + 1) (by omega) (by omega)]
      congr 3
      have hdiv : (L - 20) / (e + 2) = (L - (2 + e) - 20) / (e + 2) + 1 := by
        rw [show L - 20 = (L - (2 + e) - 20) + (e + 2) by omega, Nat.add_div_right _ (by omega)]
      omega
theorem nat_of_r {x : Int32} (lo hi : Nat) (hhi : hi < 2 ^ 31) (h : nI lo ≤ x ∧ x ≤ nI hi) (hlo : lo ≤ hi) : ∃ k, lo ≤ k ∧ k ≤ hi ∧ x = nI k := by
  obtain ⟨k, hk, rfl⟩ := nI_of (Int32.not_lt.mpr (Int32.le_trans (nI_pos' (n := lo) (by omega)) h.1))
  exact ⟨k, (nI_leI (by omega) hk).mp h.1, (nI_leI hk hhi).mp h.2, rfl⟩
theorem OK_recutsLeft {σ : Sg} {n m : Nat} (h : RN n m σ) (a b : Int32) : OK (f_L_recutsLeft σ a b) (fun τ => f_X4_recutsLeft τ a b) := by
  rcases t_cases h a with hd | ⟨i, hi, hi8, rfl, hg, hf, hA, hB, hW, hG, hC⟩
  · exact OK.dead h (X_recutsLeft h hd _) (M_recutsLeft h.n8 h.c7 hd _)
  have hm := m_none σ h.n8 h.c7 hi hg
  have hn := cl8 (show i < 480 by omega)
  have hA' := hA
  obtain ⟨a2, a5, a7, a6, a4, a9, a10, a11, a13, a14, a15, a16, a17⟩ := hA'
  by_cases q0 : b = 98 ∨ b = 115 ∨ b = 109
  case neg =>
    refine OK.no h 2 ((Lq.rf σ).t 0) (τ := σ) (b := 0) ?_ ?_ (by decide)
    · unfold f_L_recutsLeft f_X3_recutsLeft f_X3_recutsLeft_0
      simp only [t_live σ hi8 hf, bx_r, bx_l, c_cut, if_neg q0]; rfl
    · simp only [f_X4_recutsLeft, f_X4_recutsLeft_0, f_X4_recutsLeft_21, hm, Option.bind_some, if_true, m_cut, if_neg q0, w_2, if_neg one_ne]
  obtain ⟨t, ht20, ht99, et⟩ := nat_of_r 20 99 (by decide) (x := σ.1 1 i 3) hB.2.2.2.1 (by decide)
  obtain ⟨e, he3, he9, ee⟩ := nat_of_r 3 9 (by decide) (x := depthF b (σ.1 1 i 0)) (depthF_r _ _) (by decide)
  have hdiv : ∀ L, L < 200 → nI L / (nI e + 2) = nI (L / (e + 2)) := fun L hL => by
    show nI L / (nI e + nI 2) = _
    rw [nI_add, pk_div (by omega) (by omega) (by omega)]
  have hge : ¬ (0 : Int32) ≥ nI e + 2 ∧ 0 < nI e + 2 ∧ ¬ nI e + 2 = 0 := by
    show ¬ (0 : Int32) ≥ nI e + nI 2 ∧ 0 < nI e + nI 2 ∧ ¬ nI e + nI 2 = 0
    rw [nI_add]
    exact ⟨nI_nle (by omega) (by omega), nI_lt (a := 0) (by omega) (by omega), nI_ne0 (by omega) (by omega)⟩
  -- the class's last step from a rest of L
  have cfin : ∀ (L f : Nat), L < 200 → 20 ≤ L → f_X3_recutsLeft_38 σ b i (nI L) (nI f) = some (.inr (nI (f + (L - 20) / (e + 2))), σ) := fun L f hL h20 => by
    unfold f_X3_recutsLeft_38
    simp only [c_depth, Option.bind_some, ee]
    rw [if_neg (show ¬ nI L < 20 from nI_nlt (b := 20) h20 (by omega)), if_pos hge.2.1, if_neg hge.2.2, show nI L - 20 = nI (L - 20) from pk_sub h20, hdiv _ (by omega), nI_add]
  have cnone : ∀ (x : Int32) (f : Nat), x < 20 → f_X3_recutsLeft_38 σ b i x (nI f) = some (.inr 0, σ) := fun x f hx => by
    unfold f_X3_recutsLeft_38
    simp only [c_depth, Option.bind_some]
    rw [if_pos hx]
  have go : ∀ (v : Nat), (if σ.1 2 i 3 ≤ 0 then f_X3_recutsLeft_38 σ b i (σ.1 1 i 3) 0 else (f_X2_groundThickness σ i).bind (fun r5 => f_X3_recutsLeft_38 r5.2 b i r5.1 1)) = some (.inr (nI v), σ) →
      (∀ τ : Sg, (∀ f p, τ.1 8 f p = σ.1 8 f p) → (if σ.1 2 i 3 = 0 then f_X4_recutsLeft_56 τ (nI i) b (nI e) else f_X4_recutsLeft_56 τ (nI i) b (depthF (σ.1 8 3 i) (σ.1 1 i 0))) = some (nI v, τ)) → OK (f_L_recutsLeft σ (nI i) b) (fun τ => f_X4_recutsLeft τ (nI i) b) := by
    intro v hcl hml
    refine OK.yes (n := n) (m := m) (v := nI v) (τ := svo σ (nI v).toInt64) (τ2 := sv (sv (svo σ (nI v).toInt64) 7 0 0 0) 7 0 0 0) ?_ ?_ rfl rfl (h.q ((((Lq.rf σ).o _).t 0).t 0))
    · unfold f_L_recutsLeft f_X3_recutsLeft f_X3_recutsLeft_0
      simp only [t_live σ hi8 hf, bx_r, bx_l, c_cut, if_pos q0]
      rw [hcl]; rfl
    · have hm := m_no (σ := σ) (nI v).toInt64 h.n8 h.c7 hi hg
      have hml' := hml (sv (sv (svo σ (nI v).toInt64) 7 0 0 0) 7 0 0 0) (fun _ _ => rfl)
      simp only [f_X4_recutsLeft, f_X4_recutsLeft_0, f_X4_recutsLeft_21, hm, Option.bind_some, if_true, m_cut, if_pos q0, w_0, if_neg one_ne, hn, h8 hi8, if_false, t8, svo_1, a16, m_depthOf, a2, ee, fun τ => m_depth τ hi8]
      exact hml'
  by_cases q2 : σ.1 2 i 3 = 0
  · refine go ((t - 20) / (e + 2)) ?_ ?_
    · rw [if_pos (by rw [q2]; exact Int32.le_refl _), et]
      have := cfin t 0 (by omega) ht20
      rw [Nat.zero_add] at this
      exact this
    · intro τ hτ
      rw [if_pos q2]
      unfold f_X4_recutsLeft_56
      simp only [h8 hi8, if_false, hn, hτ, a6, et]
      have := rl_loop τ hi8 (x2 := b) he3 he9 (by rw [hτ, a2, ee]) 69 t 0 (by omega) (by omega)
      rw [Nat.zero_add] at this
      exact this
  · have hdep := RC.dep hA hC q2
    obtain ⟨g, hg3, hg9, eg⟩ := nat_of_r 3 9 (by decide) (x := σ.1 2 i 1) (by rw [← hdep]; exact depthF_r _ _) (by decide)
    have hle : ¬ σ.1 2 i 3 ≤ 0 := by
      obtain ⟨c, hc, hC1, -⟩ := hC
      rw [hC1] at q2 ⊢
      exact nI_nle (Nat.pos_of_ne_zero (fun q => q2 (by rw [q]; decide))) (by omega)
    have eg2 : depthF (σ.1 8 3 i) (σ.1 1 i 0) = nI g := by rw [← a2, hdep, eg]
    by_cases hc : (t : Int) - 2 - g < 20
    · refine go 0 ?_ ?_
      · rw [if_neg hle]
        unfold f_X2_groundThickness f_X2_groundThickness_0
        simp only [Option.bind_some, et, eg]
        exact cnone _ 1 ((sub_lt20 (by omega) (by omega)).mpr hc)
      · intro τ hτ
        rw [if_neg q2, eg2]
        unfold f_X4_recutsLeft_56
        simp only [h8 hi8, if_false, hn, hτ, a6, et]
        show g_X4_recutsLeft_68 (f_X4_recutsLeft_68 69) τ (nI i) b (nI g) (nI t) 0 = _
        unfold g_X4_recutsLeft_68
        rw [if_pos ((sub_lt20 (by omega) (by omega)).mpr hc)]
        rfl
    · refine go (1 + (t - (2 + g) - 20) / (e + 2)) ?_ ?_
      · rw [if_neg hle]
        unfold f_X2_groundThickness f_X2_groundThickness_0
        simp only [Option.bind_some, et, eg]
        rw [show nI t - 2 - nI g = nI (t - (2 + g)) by
          show nI t - nI 2 - nI g = _
          rw [pk_sub (by omega), pk_sub (by omega)]; congr 1; omega]
        exact cfin _ 1 (by omega) (by omega)
      · intro τ hτ
        rw [if_neg q2, eg2]
        unfold f_X4_recutsLeft_56
        simp only [h8 hi8, if_false, hn, hτ, a6, et]
        show g_X4_recutsLeft_68 (f_X4_recutsLeft_68 69) τ (nI i) b (nI g) (nI t) 0 = _
        unfold g_X4_recutsLeft_68
        rw [if_neg (fun q => hc ((sub_lt20 (by omega) (by omega)).mp q))]
        simp only [h8 hi8, if_false, hn, m_depthOf, Option.bind_some, hτ, a2, ee]
        rw [show nI t - (2 + nI g) = nI (t - (2 + g)) by
          show nI t - (nI 2 + nI g) = _
          rw [nI_add, pk_sub (by omega)]]
        exact rl_loop τ hi8 (x2 := b) he3 he9 (by rw [hτ, a2, ee]) 68 (t - (2 + g)) 1 (by omega) (by omega)
def cN (σ : Sg) (j : Nat) : Nat := (σ.1 2 j 3).toNatClampNeg
/-- the lost teeth, all teeth of the first k tools that are here -/
def sumW (σ : Sg) : Nat → Nat
  | 0 => 0
  | k + 1 => sumW σ k + (if σ.1 10 0 k = 0 then 0 else cntF (fullF σ k) (σ.1 4 k) (cN σ k))
def sumA (σ : Sg) : Nat → Nat
  | 0 => 0
  | k + 1 => sumA σ k + (if σ.1 10 0 k = 0 then 0 else cN σ k)
theorem RN.cn {σ : Sg} {n m j : Nat} (h : RN n m σ) (hj : j < n) : cN σ j ≤ 60 ∧ σ.1 2 j 3 = nI (cN σ j) := by
  obtain ⟨-, -, -, -, c, hc, hC1, -⟩ := h.2.2.2.2.2.2.2.2.2.2.2.1 j hj
  have : cN σ j = c := by unfold cN; rw [hC1, nI_clamp (by omega)]
  rw [this]; exact ⟨hc, hC1⟩
theorem RN.fl {σ : Sg} {n m j : Nat} (h : RN n m σ) (hf : ¬ σ.1 10 0 j = 0) : j < n := Nat.not_le.mp (fun q => hf (h.2.2.2.2.2.2.2.2.2.1 j q))
theorem sumA_le {σ : Sg} {n m : Nat} (h : RN n m σ) : ∀ k, sumA σ k ≤ 60 * k ∧ sumW σ k ≤ sumA σ k := by
  intro k
  induction k with
  | zero => exact ⟨Nat.le_refl _, Nat.le_refl _⟩
  | succ k ih =>
    show sumA σ k + (if σ.1 10 0 k = 0 then 0 else cN σ k) ≤ _ ∧ sumW σ k + (if σ.1 10 0 k = 0 then 0 else _) ≤ sumA σ k + (if σ.1 10 0 k = 0 then 0 else cN σ k)
    by_cases hf : σ.1 10 0 k = 0
    · rw [if_pos hf, if_pos hf]; omega
    · rw [if_neg hf, if_neg hf]
      have := (h.cn (h.fl hf)).1
      have := cntF_le (fullF σ k) (σ.1 4 k) (cN σ k)
      omega
theorem sum_end {σ : Sg} {n m : Nat} (h : RN n m σ) : ∀ d, sumA σ (n + d) = sumA σ n ∧ sumW σ (n + d) = sumW σ n := by
  intro d
  induction d with
  | zero => exact ⟨rfl, rfl⟩
  | succ d ih =>
    show sumA σ (n + d) + (if σ.1 10 0 (n + d) = 0 then 0 else _) = _ ∧ sumW σ (n + d) + (if σ.1 10 0 (n + d) = 0 then 0 else _) = _
    rw [if_pos (h.2.2.2.2.2.2.2.2.2.1 (n + d) (by omega)), if_pos (h.2.2.2.2.2.2.2.2.2.1 (n + d) (by omega))]
    exact ih
theorem ws_loop {σ : Sg} {n m : Nat} (h : RN n m σ) : ∀ (fu k : Nat), k ≤ 8 → 8 - k < fu → f_X3_wornShare_6 fu σ (nI (sumW σ k)) (nI (sumA σ k)) (nI k) = if nI (sumA σ 8) = 0 then some (.inl 6, σ) else some (.inr (FP.fdiv (FP.i2f (nI (sumW σ 8))) (FP.i2f (nI (sumA σ 8)))), σ) := by
  intro fu
  induction fu with
  | zero => intro k _ h; omega
  | succ fu ih =>
    intro k hk hf
    show g_X3_wornShare_6 (f_X3_wornShare_6 fu) σ _ _ (nI k) = _
    unfold g_X3_wornShare_6 f_X3_wornShare_51
    by_cases hk8 : k = 8
    · subst hk8
      rw [if_pos (show (8 : Int32) ≤ nI 8 by decide)]
      by_cases h0 : nI (sumA σ 8) = 0
      · rw [if_pos h0, if_pos h0]
      · rw [if_neg h0, if_neg h0, if_pos (fl_32 _ h0)]
    · have hk' : k < 8 := by omega
      rw [if_neg (show ¬ (8 : Int32) ≤ nI k from nI_ge (b := 8) hk' (by decide))]
      simp only [h8 hk', if_false, cl8 (show k < 480 by omega), nI_1]
      have hr := ih (k + 1) (by omega) (by omega)
      by_cases hfl : σ.1 10 0 k = 0
      · rw [if_pos hfl]
        have e1 : sumW σ (k + 1) = sumW σ k := by show sumW σ k + (if _ then 0 else _) = _; rw [if_pos hfl]; rfl
        have e2 : sumA σ (k + 1) = sumA σ k := by show sumA σ k + (if _ then 0 else _) = _; rw [if_pos hfl]; rfl
        rw [e1, e2] at hr; exact hr
      · rw [if_neg hfl]
        have hkn := h.fl hfl
        obtain ⟨c1, c2⟩ := h.cn hkn
        simp only [if_neg hfl, c_lostOnes σ c1 c2, Option.bind_some, nI_add, c2]
        have e1 : sumW σ (k + 1) = sumW σ k + cntF (fullF σ k) (σ.1 4 k) (cN σ k) := by show sumW σ k + (if _ then 0 else _) = _; rw [if_neg hfl]
        have e2 : sumA σ (k + 1) = sumA σ k + cN σ k := by show sumA σ k + (if _ then 0 else _) = _; rw [if_neg hfl]
        rw [e1, e2] at hr; exact hr
theorem RN.wornM {σ : Sg} {n m j : Nat} (h : RN n m σ) (hj : j < n) : f_X4_worn σ (nI j) = some (nI (cntF (fullF σ j) (σ.1 4 j) (cN σ j)), σ) ∧ σ.1 8 16 j = nI (cN σ j) := by
  have hj8 : j < 8 := Nat.lt_of_lt_of_le hj h.1
  obtain ⟨c1, c2⟩ := h.cn hj
  obtain ⟨hA, hB, hW, hG, c, hc, hC1, hC2, hC3, hC4⟩ := h.2.2.2.2.2.2.2.2.2.2.2.1 j hj
  have hcc : c = cN σ j := by unfold cN; rw [hC1, nI_clamp (by omega)]
  subst hcc
  have h16 : σ.1 8 16 j = nI (cN σ j) := by rw [hA.2.2.2.2.2.2.2.2.2.2.2.1, c2]
  refine ⟨?_, h16⟩
  rw [m_worn σ hj8 c1 h16]
  congr 3
  rcases Nat.eq_zero_or_pos (cN σ j) with h0 | hp
  · rw [h0]; rfl
  · have efull : fullM σ j = fullF σ j := by unfold fullM fullF; rw [hA.2.2.2.2.2.2.2.2.2.2.2.2, (hC3 hp).1, hA.1, (hC3 hp).2.2.1]
    rw [efull]
    exact cntF_cg (fun k hk => (hC4 k hk).2.1)
theorem RN.gone {σ : Sg} {n m j : Nat} (h : RN n m σ) (hj : j < n) : (σ.1 8 19 j = 0 ∧ ¬ σ.1 10 0 j = 0) ∨ (¬ σ.1 8 19 j = 0 ∧ σ.1 10 0 j = 0) := by
  obtain ⟨-, -, -, hG, -⟩ := h.2.2.2.2.2.2.2.2.2.2.2.1 j hj
  rcases hG with ⟨g1, g2⟩ | ⟨g1, g2⟩
  · exact Or.inl ⟨g1, g2⟩
  · exact Or.inr ⟨by rw [g1]; decide, g2⟩
theorem mws_loop {σ : Sg} {n m : Nat} (h : RN n m σ) : ∀ (fu k : Nat), k ≤ n → n - k < fu → f_X4_wornShare_6 fu σ (nI (sumW σ k)) (nI (sumA σ k)) (nI k) = if nI (sumA σ n) = 0 then some (0, sv σ 7 0 0 1) else some (FP.fdiv (FP.i2f (nI (sumW σ n))) (FP.i2f (nI (sumA σ n))), sv σ 7 0 0 0) := by
  intro fu
  induction fu with
  | zero => intro k _ h; omega
  | succ fu ih =>
    intro k hk hf
    have hn8 := h.n8
    show g_X4_wornShare_6 (f_X4_wornShare_6 fu) σ _ _ (nI k) = _
    unfold g_X4_wornShare_6 f_X4_wornShare_33 f_X4_wornShare_55 f_X4_wornShare_73 f_X4_wornShare_88
    rw [h.c7]
    by_cases hkn : k = n
    · subst hkn
      rw [if_pos (Int32.le_refl _)]
      by_cases h0 : nI (sumA σ k) = 0
      · rw [if_pos h0, if_pos h0, w_1]
        simp only [Option.bind_some, if_neg one_ne]
      · rw [if_neg h0, if_neg h0, w_0]
        simp only [Option.bind_some, if_true]
        rw [if_pos (fl_32 _ h0)]
    · have hk' : k < n := by omega
      rw [if_neg (nI_ge hk' (by omega))]
      simp only [h8 (show k < 8 by omega), if_false, cl8 (show k < 480 by omega), nI_1]
      have hr := ih (k + 1) (by omega) (by omega)
      obtain ⟨w1, w2⟩ := h.wornM hk'
      rcases h.gone hk' with ⟨g1, g2⟩ | ⟨g1, g2⟩
      · have e1 : sumW σ (k + 1) = sumW σ k + cntF (fullF σ k) (σ.1 4 k) (cN σ k) := by show sumW σ k + (if _ then 0 else _) = _; rw [if_neg g2]
        have e2 : sumA σ (k + 1) = sumA σ k + cN σ k := by show sumA σ k + (if _ then 0 else _) = _; rw [if_neg g2]
        simp only [if_pos g1, w1, Option.bind_some, w2, nI_add]
        rw [e1, e2] at hr; exact hr
      · have e1 : sumW σ (k + 1) = sumW σ k := by show sumW σ k + (if _ then 0 else _) = _; rw [if_pos g2]; rfl
        have e2 : sumA σ (k + 1) = sumA σ k := by show sumA σ k + (if _ then 0 else _) = _; rw [if_pos g2]; rfl
        simp only [if_neg g1, Int32.add_zero]
        rw [e1, e2] at hr; exact hr
/-- what an operation that answers a float or a double owes -/
def OKf (L : Option (Int32 × Sg)) (M : Sg → Option (UInt32 × Sg)) : Prop := ∃ c σ1 b σ2, L = some (c, σ1) ∧ M σ1 = some (b, σ2) ∧ σ2.1 7 0 0 = c ∧ (c = 0 → σ2.2.2.2 = FP.f2d b ∧ (FP.f2d b) &&& 0x7fffffffffffffff ≤ 0x7ff0000000000000 ∧ FP.dcmp (FP.f2d b) (FP.f2d b) = some .eq) ∧ Rl σ2 ∧ (c = 1 → b = 0)
def OKd (L : Option (Int32 × Sg)) (M : Sg → Option (UInt64 × Sg)) : Prop := ∃ c σ1 b σ2, L = some (c, σ1) ∧ M σ1 = some (b, σ2) ∧ σ2.1 7 0 0 = c ∧ (c = 0 → σ2.2.2.2 = b ∧ FP.dcmp b b = some .eq) ∧ Rl σ2
theorem OK_wornShare {σ : Sg} {n m : Nat} (h : RN n m σ) : OKf (f_L_wornShare σ) (fun τ => f_X4_wornShare τ) := by
  have hn8 := h.n8
  have hs := sum_end h (8 - n)
  rw [show n + (8 - n) = 8 by omega] at hs
  have hX := ws_loop h 70 0 (Nat.zero_le _) (by omega)
  rw [hs.1, hs.2] at hX
  by_cases h0 : nI (sumA σ n) = 0
  · have hM := mws_loop h 70 0 (Nat.zero_le _) (by omega)
    rw [if_pos h0] at hX hM
    refine ⟨1, σ, 0, sv σ 7 0 0 1, ?_, hM, sv_t _ _, fun q => absurd q one_ne, ⟨n, m, h.q ((Lq.rf σ).t 1)⟩, fun _ => rfl⟩
    unfold f_L_wornShare f_X3_wornShare f_X3_wornShare_0
    have hX' : f_X3_wornShare_6 70 σ 0 0 0 = some (.inl 6, σ) := hX
    rw [hX']; rfl
  · rw [if_neg h0] at hX
    generalize hw : sumW σ n = w at hX
    generalize ha : sumA σ n = a at hX h0
    have hd := fl_f (nI w) h0
    have hτ : RN n m (svd σ (FP.f2d (FP.fdiv (FP.i2f (nI w)) (FP.i2f (nI a))))) := h.q ((Lq.rf σ).d _)
    have hM := mws_loop hτ 70 0 (Nat.zero_le _) (by omega)
    have eW : ∀ k, sumW (svd σ (FP.f2d (FP.fdiv (FP.i2f (nI w)) (FP.i2f (nI a))))) k = sumW σ k := fun k => by
      induction k with
      | zero => rfl
      | succ k ih => show _ + (if _ then 0 else _) = _ + (if _ then 0 else _); rw [ih]; rfl
    have eA : ∀ k, sumA (svd σ (FP.f2d (FP.fdiv (FP.i2f (nI w)) (FP.i2f (nI a))))) k = sumA σ k := fun k => by
      induction k with
      | zero => rfl
      | succ k ih => show _ + (if _ then 0 else _) = _ + (if _ then 0 else _); rw [ih]; rfl
    rw [eW n, eA n, hw, ha, if_neg h0] at hM
    refine ⟨0, _, _, _, ?_, hM, sv_t _ _, fun _ => ⟨rfl, hd, fl_eq (fl_f2d (fl_d32 (nI w) h0))⟩, ⟨n, m, h.q (((Lq.rf σ).d _).t 0)⟩, fun q => absurd q (by decide)⟩
    unfold f_L_wornShare f_X3_wornShare f_X3_wornShare_0
    have hX' : f_X3_wornShare_6 70 σ 0 0 0 = some (.inr (FP.fdiv (FP.i2f (nI w)) (FP.i2f (nI a))), σ) := hX
    rw [hX', bx_r, if_pos hd]
def sumH (σ : Sg) : Nat → Int32
  | 0 => 0
  | k + 1 => if σ.1 10 0 k = 0 then sumH σ k else if σ.1 1 k 4 = 104 then sumH σ k + σ.1 1 k 7 else sumH σ k
def sumC (σ : Sg) : Nat → Int32
  | 0 => 0
  | k + 1 => if σ.1 10 0 k = 0 then sumC σ k else if σ.1 1 k 4 = 104 then sumC σ k + 1 else sumC σ k
theorem sumH_end {σ : Sg} {n m : Nat} (h : RN n m σ) : ∀ d, sumH σ (n + d) = sumH σ n ∧ sumC σ (n + d) = sumC σ n := by
  intro d
  induction d with
  | zero => exact ⟨rfl, rfl⟩
  | succ d ih =>
    show (if σ.1 10 0 (n + d) = 0 then sumH σ (n + d) else _) = _ ∧ (if σ.1 10 0 (n + d) = 0 then sumC σ (n + d) else _) = _
    rw [if_pos (h.2.2.2.2.2.2.2.2.2.1 (n + d) (by omega)), if_pos (h.2.2.2.2.2.2.2.2.2.1 (n + d) (by omega))]
    exact ih
theorem mh_loop (σ : Sg) : ∀ (fu k : Nat), k ≤ 8 → 8 - k < fu → f_X3_meanHardness_6 fu σ (sumH σ k) (sumC σ k) (nI k) = if sumC σ 8 = 0 then some (.inl 6, σ) else some (.inr (FP.ddiv (FP.i2d (sumH σ 8)) (FP.i2d (sumC σ 8))), σ) := by
  intro fu
  induction fu with
  | zero => intro k _ h; omega
  | succ fu ih =>
    intro k hk hf
    show g_X3_meanHardness_6 (f_X3_meanHardness_6 fu) σ _ _ (nI k) = _
    unfold g_X3_meanHardness_6 f_X3_meanHardness_50
    by_cases hk8 : k = 8
    · subst hk8
      rw [if_pos (show (8 : Int32) ≤ nI 8 by decide)]
      by_cases h0 : sumC σ 8 = 0
      · rw [if_pos h0, if_pos h0]
      · rw [if_neg h0, if_neg h0, if_pos (fl_64 _ h0)]
    · have hk' : k < 8 := by omega
      rw [if_neg (show ¬ (8 : Int32) ≤ nI k from nI_ge (b := 8) hk' (by decide))]
      simp only [h8 hk', if_false, cl8 (show k < 480 by omega), nI_1]
      have hr := ih (k + 1) (by omega) (by omega)
      have e1 : sumH σ (k + 1) = if σ.1 10 0 k = 0 then sumH σ k else if σ.1 1 k 4 = 104 then sumH σ k + σ.1 1 k 7 else sumH σ k := rfl
      have e2 : sumC σ (k + 1) = if σ.1 10 0 k = 0 then sumC σ k else if σ.1 1 k 4 = 104 then sumC σ k + 1 else sumC σ k := rfl
      by_cases hfl : σ.1 10 0 k = 0
      · rw [if_pos hfl] at e1 e2 ⊢
        rw [e1, e2] at hr; exact hr
      · rw [if_neg hfl] at e1 e2 ⊢
        simp only [if_neg hfl]
        by_cases h4 : σ.1 1 k 4 = 104
        · rw [if_pos h4] at e1 e2 ⊢
          rw [e1, e2] at hr; exact hr
        · rw [if_neg h4] at e1 e2 ⊢
          rw [e1, e2] at hr; exact hr
theorem mmh_loop {σ : Sg} {n m : Nat} (h : RN n m σ) : ∀ (fu k : Nat), k ≤ n → n - k < fu → f_X4_meanHardness_6 fu σ (sumH σ k) (sumC σ k) (nI k) = if sumC σ n = 0 then some (0, sv σ 7 0 0 1) else some (FP.ddiv (FP.i2d (sumH σ n)) (FP.i2d (sumC σ n)), sv σ 7 0 0 0) := by
  intro fu
  induction fu with
  | zero => intro k _ h; omega
  | succ fu ih =>
    intro k hk hf
    have hn8 := h.n8
    show g_X4_meanHardness_6 (f_X4_meanHardness_6 fu) σ _ _ (nI k) = _
    unfold g_X4_meanHardness_6 f_X4_meanHardness_39 f_X4_meanHardness_38 f_X4_meanHardness_57 f_X4_meanHardness_70 f_X4_meanHardness_88 f_X4_meanHardness_103 f_X4_meanHardness_39 f_X4_meanHardness_57 f_X4_meanHardness_70
    rw [h.c7]
    by_cases hkn : k = n
    · subst hkn
      rw [if_pos (Int32.le_refl _)]
      by_cases h0 : sumC σ k = 0
      · rw [if_pos h0, if_pos h0, w_1]
        simp only [Option.bind_some, if_neg one_ne]
      · rw [if_neg h0, if_neg h0, w_0]
        simp only [Option.bind_some, if_true]
        rw [if_pos (fl_64 _ h0)]
    · have hk' : k < n := by omega
      rw [if_neg (nI_ge hk' (by omega))]
      have hr := ih (k + 1) (by omega) (by omega)
      have e1 : sumH σ (k + 1) = if σ.1 10 0 k = 0 then sumH σ k else if σ.1 1 k 4 = 104 then sumH σ k + σ.1 1 k 7 else sumH σ k := rfl
      have e2 : sumC σ (k + 1) = if σ.1 10 0 k = 0 then sumC σ k else if σ.1 1 k 4 = 104 then sumC σ k + 1 else sumC σ k := rfl
      obtain ⟨hA, -⟩ := h.2.2.2.2.2.2.2.2.2.2.2.1 k hk'
      simp only [h8 (show k < 8 by omega), if_false, cl8 (show k < 480 by omega), nI_1, if_neg one_ne, if_true, hA.2.2.2.2.1, hA.2.2.2.2.2.2.1]
      rcases h.gone hk' with ⟨g1, g2⟩ | ⟨g1, g2⟩
      · rw [if_neg g2] at e1 e2
        rw [if_pos g1]
        by_cases h4 : σ.1 1 k 4 = 104
        · rw [if_pos h4] at e1 e2 ⊢
          rw [e1, e2] at hr; exact hr
        · rw [if_neg h4] at e1 e2 ⊢
          rw [Int32.add_zero, Int32.add_zero]
          rw [e1, e2] at hr; exact hr
      · rw [if_pos g2] at e1 e2
        rw [if_neg g1, Int32.add_zero, Int32.add_zero]
        rw [e1, e2] at hr; exact hr
theorem OK_meanHardness {σ : Sg} {n m : Nat} (h : RN n m σ) : OKd (f_L_meanHardness σ) (fun τ => f_X4_meanHardness τ) := by
  have hn8 := h.n8
  have hs := sumH_end h (8 - n)
  rw [show n + (8 - n) = 8 by omega] at hs
  have hX := mh_loop σ 70 0 (Nat.zero_le _) (by omega)
  rw [hs.1, hs.2] at hX
  by_cases h0 : sumC σ n = 0
  · have hM := mmh_loop h 70 0 (Nat.zero_le _) (by omega)
    rw [if_pos h0] at hX hM
    refine ⟨1, σ, 0, sv σ 7 0 0 1, ?_, hM, sv_t _ _, fun q => absurd q one_ne, ⟨n, m, h.q ((Lq.rf σ).t 1)⟩⟩
    unfold f_L_meanHardness f_X3_meanHardness f_X3_meanHardness_0
    have hX' : f_X3_meanHardness_6 70 σ 0 0 0 = some (.inl 6, σ) := hX
    rw [hX']; rfl
  · rw [if_neg h0] at hX
    generalize hw : sumH σ n = w at hX
    generalize ha : sumC σ n = a at hX h0
    have hτ : RN n m (svd σ (FP.ddiv (FP.i2d w) (FP.i2d a))) := h.q ((Lq.rf σ).d _)
    have hM := mmh_loop hτ 70 0 (Nat.zero_le _) (by omega)
    have eW : ∀ k, sumH (svd σ (FP.ddiv (FP.i2d w) (FP.i2d a))) k = sumH σ k := fun k => by
      induction k with
      | zero => rfl
      | succ k ih => show (if _ then _ else if _ then _ else _) = (if _ then _ else if _ then _ else _); rw [ih]; rfl
    have eA : ∀ k, sumC (svd σ (FP.ddiv (FP.i2d w) (FP.i2d a))) k = sumC σ k := fun k => by
      induction k with
      | zero => rfl
      | succ k ih => show (if _ then _ else if _ then _ else _) = (if _ then _ else if _ then _ else _); rw [ih]; rfl
    rw [eW n, eA n, hw, ha, if_neg h0] at hM
    refine ⟨0, _, _, _, ?_, hM, sv_t _ _, fun _ => ⟨rfl, fl_eq (fl_d64 w h0)⟩, ⟨n, m, h.q (((Lq.rf σ).d _).t 0)⟩⟩
    unfold f_L_meanHardness f_X3_meanHardness f_X3_meanHardness_0
    have hX' : f_X3_meanHardness_6 70 σ 0 0 0 = some (.inr (FP.ddiv (FP.i2d w) (FP.i2d a)), σ) := hX
    rw [hX', bx_r]
def adF (s : Int64) (hs : Nat → Int32) : Nat → Int64
  | 0 => s
  | k + 1 => 31 * adF s hs k + (hs k).toInt64
theorem adF_cg {s : Int64} {hs hs' : Nat → Int32} {c : Nat} (h : ∀ k, k < c → hs k = hs' k) : adF s hs c = adF s hs' c := by
  induction c with
  | zero => rfl
  | succ c ih =>
    show 31 * adF s hs c + (hs c).toInt64 = 31 * adF s hs' c + (hs' c).toInt64
    rw [ih (fun k hk => h k (by omega)), h c (by omega)]
/-- the sum over the first k tools -/
def ckF (σ : Sg) : Nat → Int64
  | 0 => 7
  | k + 1 => if σ.1 10 0 k = 0 then ckF σ k else adF (31 * (31 * (31 * ckF σ k + (σ.1 1 k 3).toInt64) + (σ.1 1 k 7).toInt64) + (σ.1 1 k 8).toInt64) (σ.1 4 k) (cN σ k)
theorem add_loop (σ : Sg) {i c : Nat} (hc : c ≤ 60) (h3 : σ.1 2 i 3 = nI c) (s : Int64) : ∀ (fu k : Nat), k ≤ c → c - k < fu → f_X2_addTo_39 fu σ i (adF s (σ.1 4 i) k) (nI k) = some (adF s (σ.1 4 i) c, σ) := by
  intro fu
  induction fu with
  | zero => intro k _ h; omega
  | succ fu ih =>
    intro k hk hf
    show g_X2_addTo_39 (f_X2_addTo_39 fu) σ i (adF s (σ.1 4 i) k) (nI k) = _
    unfold g_X2_addTo_39
    by_cases hkc : k = c
    · subst hkc
      rw [h3, if_pos (Int32.le_refl _)]
    · rw [h3, if_neg (nI_ge (show k < c by omega) (by omega))]
      simp only [h60 (show k < 60 by omega), if_false, cl8 (show k < 480 by omega), nI_1]
      exact ih (k + 1) (by omega) (by omega)
theorem ck_loop {σ : Sg} {n m : Nat} (h : RN n m σ) : ∀ (fu k : Nat), k ≤ 8 → 8 - k < fu → f_X3_checksum_6 fu σ (ckF σ k) (nI k) = some (31 * ckF σ 8 + σ.2.1, σ) := by
  intro fu
  induction fu with
  | zero => intro k _ h; omega
  | succ fu ih =>
    intro k hk hf
    show g_X3_checksum_6 (f_X3_checksum_6 fu) σ _ (nI k) = _
    unfold g_X3_checksum_6 f_X3_checksum_32
    by_cases hk8 : k = 8
    · subst hk8
      rw [if_pos (show (8 : Int32) ≤ nI 8 by decide)]
    · have hk' : k < 8 := by omega
      rw [if_neg (show ¬ (8 : Int32) ≤ nI k from nI_ge (b := 8) hk' (by decide))]
      simp only [h8 hk', if_false, cl8 (show k < 480 by omega), nI_1]
      have hr := ih (k + 1) (by omega) (by omega)
      have e1 : ckF σ (k + 1) = if σ.1 10 0 k = 0 then ckF σ k else adF (31 * (31 * (31 * ckF σ k + (σ.1 1 k 3).toInt64) + (σ.1 1 k 7).toInt64) + (σ.1 1 k 8).toInt64) (σ.1 4 k) (cN σ k) := rfl
      by_cases hfl : σ.1 10 0 k = 0
      · rw [if_pos hfl] at e1 ⊢
        rw [e1] at hr; exact hr
      · rw [if_neg hfl] at e1 ⊢
        have hkn := h.fl hfl
        obtain ⟨c1, c2⟩ := h.cn hkn
        have ha := add_loop σ c1 c2 (31 * (31 * (31 * ckF σ k + (σ.1 1 k 3).toInt64) + (σ.1 1 k 7).toInt64) + (σ.1 1 k 8).toInt64) 70 0 (Nat.zero_le _) (by omega)
        have ha' : f_X2_addTo σ k (ckF σ k) = some (adF (31 * (31 * (31 * ckF σ k + (σ.1 1 k 3).toInt64) + (σ.1 1 k 7).toInt64) + (σ.1 1 k 8).toInt64) (σ.1 4 k) (cN σ k), σ) := ha
        simp only [if_neg hfl, ha', Option.bind_some]
        rw [e1] at hr; exact hr
theorem ck75 (rec : Sg → Int64 → Int32 → Option (Int64 × Sg)) (τ : Sg) {i c : Nat} (hi8 : i < 8) (hc : c ≤ 60) (h3 : τ.1 8 16 i = nI c) (s : Int64) : ∀ (fu k : Nat), k ≤ c → c - k < fu → f_X4_checksum_75 rec fu τ (adF s (fun k => τ.1 8 20 (60 * i + k)) k) (nI i) (nI (60 * i + k)) = rec τ (adF s (fun k => τ.1 8 20 (60 * i + k)) c) (nI (i + 1)) := by
  intro fu
  induction fu with
  | zero => intro k _ h; omega
  | succ fu ih =>
    intro k hk hf
    show g_X4_checksum_75 rec (f_X4_checksum_75 rec fu) τ _ (nI i) (nI (60 * i + k)) = _
    unfold g_X4_checksum_75 f_X4_checksum_112
    simp only [h8 hi8, if_false, cl8 (show i < 480 by omega), h3, n60a]
    by_cases hkc : k = c
    · subst hkc
      rw [if_pos (Int32.le_refl _), nI_1]
    · rw [if_neg (nI_ge (show 60 * i + k < 60 * i + c by omega) (by omega))]
      simp only [h480 (show 60 * i + k < 480 by omega), if_false, cl8 (show 60 * i + k < 480 by omega), nI_1]
      exact ih (k + 1) (by omega) (by omega)
theorem mck_loop {σ : Sg} {n m : Nat} (h : RN n m σ) : ∀ (fu k : Nat), k ≤ n → n - k < fu → f_X4_checksum_11 fu σ (ckF σ k) (nI k) = some (31 * ckF σ n + (σ.1 7 0 22).toInt64, σ) := by
  intro fu
  induction fu with
  | zero => intro k _ h; omega
  | succ fu ih =>
    intro k hk hf
    have hn8 := h.n8
    show g_X4_checksum_11 (f_X4_checksum_11 fu) σ _ (nI k) = _
    unfold g_X4_checksum_11 f_X4_checksum_112
    rw [h.c7]
    by_cases hkn : k = n
    · subst hkn
      rw [if_pos (Int32.le_refl _)]
    · have hk' : k < n := by omega
      have hk8 : k < 8 := by omega
      rw [if_neg (nI_ge hk' (by omega))]
      have hr := ih (k + 1) (by omega) (by omega)
      have e1 : ckF σ (k + 1) = if σ.1 10 0 k = 0 then ckF σ k else adF (31 * (31 * (31 * ckF σ k + (σ.1 1 k 3).toInt64) + (σ.1 1 k 7).toInt64) + (σ.1 1 k 8).toInt64) (σ.1 4 k) (cN σ k) := rfl
      obtain ⟨c1, c2⟩ := h.cn hk'
      have h16 := (h.wornM hk').2
      obtain ⟨hA, -, -, -, c, hc, hC1, -, -, hC4⟩ := h.2.2.2.2.2.2.2.2.2.2.2.1 k hk'
      have hcc : c = cN σ k := by unfold cN; rw [hC1, nI_clamp (by omega)]
      subst hcc
      simp only [h8 hk8, if_false, cl8 (show k < 480 by omega), nI_1, n60, hA.2.2.2.1, hA.2.2.2.2.2.2.1, hA.2.2.2.2.2.2.2.1]
      rcases h.gone hk' with ⟨g1, g2⟩ | ⟨g1, g2⟩
      · rw [if_neg g2] at e1
        rw [if_pos g1]
        have hl := ck75 (f_X4_checksum_11 fu) σ hk8 c1 h16 (31 * (31 * (31 * ckF σ k + (σ.1 1 k 3).toInt64) + (σ.1 1 k 7).toInt64) + (σ.1 1 k 8).toInt64) 70 0 (Nat.zero_le _) (by omega)
        rw [adF_cg (c := cN σ k) (hs' := σ.1 4 k) (fun j hj => (hC4 j hj).2.1), ← e1, hr] at hl
        exact hl
      · rw [if_pos g2] at e1
        rw [if_neg g1]
        rw [e1] at hr; exact hr
theorem ck_end {σ : Sg} {n m : Nat} (h : RN n m σ) : ∀ d, ckF σ (n + d) = ckF σ n := by
  intro d
  induction d with
  | zero => rfl
  | succ d ih =>
    show (if σ.1 10 0 (n + d) = 0 then ckF σ (n + d) else _) = _
    rw [if_pos (h.2.2.2.2.2.2.2.2.2.1 (n + d) (by omega))]
    exact ih
/-- the two sums are one number -/
theorem OK_checksum {σ : Sg} {n m : Nat} (h : RN n m σ) : ∃ v : Int64, f_X3_checksum σ = some (v, σ) ∧ f_X4_checksum σ = some (v, sv σ 7 0 0 0) ∧ Rl (sv σ 7 0 0 0) := by
  have hn8 := h.n8
  have he := ck_end h (8 - n)
  rw [show n + (8 - n) = 8 by omega] at he
  have hX := ck_loop h 70 0 (Nat.zero_le _) (by omega)
  have hq : RN n m (sv σ 7 0 0 0) := h.q ((Lq.rf σ).t 0)
  have hM := mck_loop hq 70 0 (Nat.zero_le _) (by omega)
  have eK : ∀ k, ckF (sv σ 7 0 0 0) k = ckF σ k := fun k => by
    induction k with
    | zero => rfl
    | succ k ih => show (if _ then _ else adF (31 * (31 * (31 * _ + _) + _) + _) _ _) = (if _ then _ else adF (31 * (31 * (31 * _ + _) + _) + _) _ _); rw [ih]; rfl
  rw [he, h.2.2.2.2.2.2.1] at hX
  rw [eK n, show (sv σ 7 0 0 0).1 7 0 22 = σ.1 7 0 22 from rfl] at hM
  exact ⟨31 * ckF σ n + (σ.1 7 0 22).toInt64, hX, hM, n, m, hq⟩
theorem Lq.v {σ τ : Sg} (h : Lq σ τ) (p : Nat) (v : Int32) : Lq σ (sv τ 2 8 p v) := ⟨fun k i' q hk => by rw [sv_rd, if_neg (by omega)]; exact h.1 k i' q hk, h.2⟩
theorem Lq.s {σ τ : Sg} (h : Lq σ τ) (k : Nat) (h2 : 2 ≤ k) (h5 : k ≤ 5) (g : Nat → Int32) : Lq σ (sr τ k 8 g) := ⟨fun k' i' q hk => by rw [sr_rd, if_neg (by omega)]; exact h.1 k' i' q hk, h.2⟩
theorem ahead_loop (σ : Sg) {i c : Nat} (hc : c ≤ 60) (h3 : σ.1 2 i 3 = nI c) (bi room : Int32) : ∀ (fu k : Nat) (s : Int32), k ≤ c → c - k < fu → ∃ v, f_X1_biteAhead_5 fu σ i bi room s (nI k) = some (v, σ) := by
  intro fu
  induction fu with
  | zero => intro k _ _ h; omega
  | succ fu ih =>
    intro k s hk hf
    show ∃ v, g_X1_biteAhead_5 (f_X1_biteAhead_5 fu) σ i bi room s (nI k) = some (v, σ)
    unfold g_X1_biteAhead_5 f_X1_biteAhead_33
    by_cases hkc : k = c
    · subst hkc
      rw [h3, if_pos (Int32.le_refl _)]
      exact ⟨s, rfl⟩
    · rw [h3, if_neg (nI_ge (show k < c by omega) (by omega))]
      simp only [h60 (show k < 60 by omega), if_false, cl8 (show k < 480 by omega), nI_1]
      by_cases hr : room ≤ s
      · rw [if_pos hr]; exact ih (k + 1) _ (by omega) (by omega)
      · rw [if_neg hr]; exact ih (k + 1) _ (by omega) (by omega)
theorem due_loop (σ : Sg) {i c : Nat} (hc : c ≤ 60) (h3 : σ.1 2 i 3 = nI c) (len : Int32) : ∀ (fu k : Nat) (at0 : Int32), k ≤ c → c - k < fu → ∃ v, f_X1_placesAreDue_4 fu σ i len at0 (nI k) = some (v, σ) := by
  intro fu
  induction fu with
  | zero => intro k _ _ h; omega
  | succ fu ih =>
    intro k at0 hk hf
    show ∃ v, g_X1_placesAreDue_4 (f_X1_placesAreDue_4 fu) σ i len at0 (nI k) = some (v, σ)
    unfold g_X1_placesAreDue_4 f_X1_placesAreDue_64
    by_cases hkc : k = c
    · subst hkc
      rw [h3, if_pos (Int32.le_refl _)]
      split
      · exact ⟨1, rfl⟩
      · split
        · exact ⟨1, rfl⟩
        · split
          · exact ⟨0, rfl⟩
          · exact ⟨1, rfl⟩
    · rw [h3, if_neg (nI_ge (show k < c by omega) (by omega))]
      simp only [h60 (show k < 60 by omega), if_false, cl8 (show k < 480 by omega), nI_1, c_step σ i (show k < 60 by omega), Option.bind_some]
      split
      · split
        · exact ih (k + 1) _ (by omega) (by omega)
        · exact ⟨0, rfl⟩
      · exact ⟨0, rfl⟩
/-- the copy of a row -/
theorem become_ok {σ : Sg} {i : Nat} (hi8 : i < 8) (h0 : ((σ.1 2 i 0).toUInt32 % 65536).toInt32 = σ.1 2 i 0) (h4 : σ.1 2 i 4 = 0 ∨ σ.1 2 i 4 = 1) : ∃ τ, f_X1_become σ 8 i = some ((), τ) ∧ Lq σ τ ∧ τ.1 2 8 3 = σ.1 2 i 3 ∧ (∀ k, k < 60 → τ.1 4 8 k = σ.1 4 i k ∧ τ.1 5 8 k = σ.1 5 i k) := by
  have hne : ¬ i = 8 := by omega
  unfold f_X1_become f_X1_become_0
  rw [if_pos h0]
  have r : ∀ (τ : Sg) (p q : Nat) (v : Int32), (sv τ 2 8 p v).1 2 i q = τ.1 2 i q := fun τ p q v => by rw [sv_rd, if_neg (by omega)]
  simp only [r]
  rw [if_pos h4]
  refine ⟨_, rfl, ?_, ?_, fun k hk => ⟨?_, ?_⟩⟩
  · exact ((((((((Lq.rf σ).v _ _).v _ _).v _ _).v _ _).v _ _).s 3 (by decide) (by decide) _).s 4 (by decide) (by decide) _).s 5 (by decide) (by decide) _
  · simp [sr_rd, sv_rd]
  · rw [sr_rd, if_neg (by omega), sr_rd, if_pos ⟨rfl, rfl⟩, pk_cpy_in (Nat.zero_le _) (by omega), sr_rd, if_neg (by omega)]
    simp [sv_rd]
  · rw [sr_rd, if_pos ⟨rfl, rfl⟩, pk_cpy_in (Nat.zero_le _) (by omega), sr_rd, if_neg (by omega), sr_rd, if_neg (by omega)]
    simp [sv_rd]
theorem soundTool_ok {σ : Sg} {n m i : Nat} (h : RN n m σ) (hi : i < n) : ∃ v τ, f_X3_isSoundTool σ i = some (v, τ) ∧ Lq σ τ := by
  have hi8 : i < 8 := Nat.lt_of_lt_of_le hi h.1
  obtain ⟨hA, hB, hW, hG, c, hc, hC1, hC2, hC3, hC4⟩ := h.2.2.2.2.2.2.2.2.2.2.2.1 i hi
  obtain ⟨v1, e1⟩ := due_loop σ hc hC1 (σ.1 1 i 1) 70 0 0 (Nat.zero_le _) (by omega)
  have e1' : f_X1_placesAreDue σ i (σ.1 1 i 1) = some (v1, σ) := e1
  have e2 := c_high σ hc hC1
  obtain ⟨ov, eo⟩ := c_onemore σ hc hC1
  unfold f_X3_isSoundTool f_X3_isSoundTool_0 f_X3_isSoundTool_64 f_X2_holds f_X2_holds_0
  simp only [e1', Option.bind_some, e2, eo]
  by_cases q1 : v1 = 0
  · rw [if_pos q1]; exact ⟨_, _, rfl, Lq.rf σ⟩
  rw [if_neg q1]
  by_cases q2 : σ.1 2 i 1 < mxF (σ.1 4 i) c
  · rw [if_pos q2]; exact ⟨_, _, rfl, Lq.rf σ⟩
  rw [if_neg q2]
  by_cases q3 : (σ.1 2 i 1 + σ.1 1 i 6) * σ.1 2 i 3 + ov < σ.1 1 i 10
  · rw [if_pos q3]; exact ⟨_, _, rfl, Lq.rf σ⟩
  rw [if_neg q3]
  by_cases q4 : σ.1 1 i 4 = 104
  case neg => rw [if_neg q4]; exact ⟨_, _, rfl, Lq.rf σ⟩
  rw [if_pos q4]
  have hpos : 0 < c := Nat.pos_of_ne_zero (fun q => hB.2.2.2.2.2.2.2.2.2.2 q4 (by rw [hC1, q]; decide))
  obtain ⟨τ, b1, b2, b3, b4⟩ := become_ok (σ := σ) hi8 (hC3 hpos).2.2.2.2 hB.2.2.2.2.2.2.2.2.2.1
  have hst := c_stroke τ (i := 8) hc (by rw [b3]; exact hC1) (τ.1 1 i 7) ((σ.1 2 i 1 + σ.1 1 i 6) * σ.1 2 i 3 - σ.1 1 i 10) 1 (by decide) (fun k hk => by rw [(b4 k (by omega)).1, (b4 k (by omega)).2]; exact (hC4 k hk).2.2.2)
  generalize hτ2 : sr (sr τ 4 8 _) 5 8 _ = τ2 at hst
  have hL2 : Lq σ τ2 := by rw [← hτ2]; exact ((b2.s 4 (by decide) (by decide) _).s 5 (by decide) (by decide) _)
  have r3 : τ2.1 2 i 3 = nI c := by rw [hL2.1 2 i 3 (by omega)]; exact hC1
  obtain ⟨v5, e5⟩ := ahead_loop τ2 hc r3 (biF (τ2.1 1 i 7) 1) ((σ.1 2 i 1 + σ.1 1 i 6) * σ.1 2 i 3 - σ.1 1 i 10) 70 0 0 (Nat.zero_le _) (by omega)
  have e5' : f_X1_biteAhead τ2 i (biF (τ2.1 1 i 7) 1) ((σ.1 2 i 1 + σ.1 1 i 6) * σ.1 2 i 3 - σ.1 1 i 10) = some (v5, τ2) := e5
  have hwhole : ∃ v, f_X3_strokesOnCopyAsDue σ i = some (v, τ2) := by
    unfold f_X3_strokesOnCopyAsDue f_X3_strokesOnCopyAsDue_0 f_X2_holds f_X2_holds_0
    simp only [Option.bind_some, b1, hst, c_bite, e5']
    split
    · exact ⟨1, rfl⟩
    · exact ⟨0, rfl⟩
  obtain ⟨v, ev⟩ := hwhole
  rw [ev]
  simp only [Option.bind_some]
  split
  · exact ⟨_, _, rfl, hL2⟩
  · exact ⟨_, _, rfl, hL2⟩
theorem sound_loop {n m : Nat} : ∀ (fu k : Nat) (σ : Sg), RN n m σ → k ≤ 8 → 8 - k < fu → ∃ v τ, f_X3_isSound_2 fu σ (nI k) = some (v, τ) ∧ Lq σ τ := by
  intro fu
  induction fu with
  | zero => intro k _ _ _ h; omega
  | succ fu ih =>
    intro k σ h hk hf
    show ∃ v τ, g_X3_isSound_2 (f_X3_isSound_2 fu) σ (nI k) = some (v, τ) ∧ Lq σ τ
    unfold g_X3_isSound_2 f_X3_isSound_32
    by_cases hk8 : k = 8
    · subst hk8
      rw [if_pos (show (8 : Int32) ≤ nI 8 by decide)]
      exact ⟨_, _, rfl, Lq.rf σ⟩
    · have hk' : k < 8 := by omega
      rw [if_neg (show ¬ (8 : Int32) ≤ nI k from nI_ge (b := 8) hk' (by decide))]
      simp only [h8 hk', if_false, cl8 (show k < 480 by omega), nI_1]
      by_cases hfl : σ.1 10 0 k = 0
      · rw [if_pos hfl]
        exact ih (k + 1) σ h (by omega) (by omega)
      · rw [if_neg hfl, if_neg hfl]
        obtain ⟨v, τ, e1, e2⟩ := soundTool_ok h (h.fl hfl)
        rw [e1]
        simp only [Option.bind_some]
        split
        · exact ⟨_, _, rfl, e2⟩
        · obtain ⟨v', τ', e3, e4⟩ := ih (k + 1) τ (h.q e2) (by omega) (by omega)
          exact ⟨v', τ', e3, e2.tr e4⟩
/-- isSound is answered on both sides (its answers aren't one another's: REPORT.md, S1) -/
theorem OK_isSound {σ : Sg} {n m : Nat} (h : RN n m σ) : ∃ v τ, f_X3_isSound σ = some (v, τ) ∧ f_X4_isSound τ = some (1, sv τ 7 0 0 0) ∧ Rl (sv τ 7 0 0 0) := by
  obtain ⟨v, τ, e1, e2⟩ := sound_loop 70 0 σ h (Nat.zero_le _) (by omega)
  exact ⟨v, τ, e1, rfl, n, m, h.q (e2.t 0)⟩
/-! the law's function over any script -/
theorem ig {q N : Nat} (d : Nat) (hd : d < 5) (h : q + 5 ≤ N) (hN : N < 2 ^ 30) : ¬ (nI q + nI d < 0 ∨ N ≤ (nI q + nI d).toNatClampNeg) := by
  rw [nI_add, nI_clamp (by omega)]
  exact fun r => r.elim (nI_pos (by omega)) (fun r => by omega)
theorem lgs (x : Int64) : lg_cmp x x = 0 := by unfold lg_cmp; simp
theorem char_ok (x : Int32) : (((x.toUInt32 % 65536).toInt32).toUInt32 % 65536).toInt32 = (x.toUInt32 % 65536).toInt32 := by
  have h4 : ((x.toUInt32 % 65536).toInt32).toBitVec.toNat < 65536 := by
    rw [pk_char x, pk_tn (by omega)]
    exact Nat.mod_lt _ (by decide)
  rw [pk_char ((x.toUInt32 % 65536).toInt32), pk_char x, pk_tn (by omega), Nat.mod_mod]
theorem sings01 {τ τ2 : Sg} {a b : Int32} (h : f_X4_sings τ a = some (b, τ2)) : b = 0 ∨ b = 1 := by
  unfold f_X4_sings f_X4_sings_0 at h
  rcases h1 : f_X4_isNone τ a with _ | r
  · rw [h1] at h; cases h
  rw [h1] at h
  simp only [Option.bind_some] at h
  split at h
  · rcases h2 : f_X4_doesSing r.2 a with _ | s
    · rw [h2] at h; cases h
    rw [h2] at h
    simp only [Option.bind_some] at h
    split at h <;> cases h <;> simp
  · cases h; simp
theorem good01 {τ τ2 : Sg} {a c b : Int32} (h : f_X4_isGood τ a c = some (b, τ2)) : b = 0 ∨ b = 1 := by
  unfold f_X4_isGood f_X4_isGood_0 at h
  rcases h1 : f_X4_isNone τ a with _ | r
  · rw [h1] at h; cases h
  rw [h1] at h
  simp only [Option.bind_some] at h
  split at h
  · rcases h2 : f_X4_isNoOrder r.2 c with _ | s
    · rw [h2] at h; cases h
    rw [h2] at h
    simp only [Option.bind_some] at h
    split at h
    · rcases h3 : f_X4_fits s.2 a c with _ | t
      · rw [h3] at h; cases h
      rw [h3] at h
      simp only [Option.bind_some] at h
      split at h <;> cases h <;> simp
    · cases h; simp
  · cases h; simp
theorem fcl {x : UInt64} (h : FP.dcmp x x = some .eq) : Op.cmpValue (FP.dcmp x x) .l = 0 := by rw [h]; rfl
theorem k_0 {N : Nat} (hN : N < 2 ^ 30) {xs : Nat → Int32} {rec : Sg → Int32 → Option Unit} {q : Nat} (hq : q + 5 ≤ N) (hrec : ∀ σ : Sg, Rl σ → rec σ (nI q + 5) = some ()) {σ : Sg} {n m : Nat} (h : RN n m σ) : f_law_0 N xs rec σ (nI q) = some () := by
  have i1 : ¬ (nI q + 1 < 0 ∨ N ≤ (nI q + 1).toNatClampNeg) := ig 1 (by decide) hq hN
  have i2 : ¬ (nI q + 2 < 0 ∨ N ≤ (nI q + 2).toNatClampNeg) := ig 2 (by decide) hq hN
  have i3 : ¬ (nI q + 3 < 0 ∨ N ≤ (nI q + 3).toNatClampNeg) := ig 3 (by decide) hq hN
  have i4 : ¬ (nI q + 4 < 0 ∨ N ≤ (nI q + 4).toNatClampNeg) := ig 4 (by decide) hq hN
  obtain ⟨c, σ1, b, σ2, e1, e2, e3, e4, hR⟩ := OK_blank h ((xs (nI q + 1).toNatClampNeg).toUInt32 % 65536).toInt32 (xs (nI q + 2).toNatClampNeg) (xs (nI q + 3).toNatClampNeg) (xs (nI q + 4).toNatClampNeg) (char_ok _)
  unfold f_law_0
  simp only [if_neg i1, if_neg i2, if_neg i3, if_neg i4]
  refine bd e1 ?_
  dsimp only
  refine bd e2 ?_
  dsimp only
  exact hrec σ2 hR
theorem k_1 {N : Nat} (hN : N < 2 ^ 30) {xs : Nat → Int32} {rec : Sg → Int32 → Option Unit} {q : Nat} (hq : q + 5 ≤ N) (hrec : ∀ σ : Sg, Rl σ → rec σ (nI q + 5) = some ()) {σ : Sg} {n m : Nat} (h : RN n m σ) : f_law_1 N xs rec σ (nI q) = some () := by
  have i1 : ¬ (nI q + 1 < 0 ∨ N ≤ (nI q + 1).toNatClampNeg) := ig 1 (by decide) hq hN
  have i2 : ¬ (nI q + 2 < 0 ∨ N ≤ (nI q + 2).toNatClampNeg) := ig 2 (by decide) hq hN
  have i3 : ¬ (nI q + 3 < 0 ∨ N ≤ (nI q + 3).toNatClampNeg) := ig 3 (by decide) hq hN
  obtain ⟨c, σ1, b, σ2, e1, e2, e3, e4, hR⟩ := OK_cut h (xs (nI q + 1).toNatClampNeg) ((xs (nI q + 2).toNatClampNeg).toUInt32 % 65536).toInt32 (xs (nI q + 3).toNatClampNeg) (char_ok _)
  unfold f_law_1
  simp only [if_neg i1, if_neg i2, if_neg i3]
  refine bd e1 ?_
  dsimp only
  refine bd e2 ?_
  dsimp only
  exact hrec σ2 hR
theorem k_2 {N : Nat} (hN : N < 2 ^ 30) {xs : Nat → Int32} {rec : Sg → Int32 → Option Unit} {q : Nat} (hq : q + 5 ≤ N) (hrec : ∀ σ : Sg, Rl σ → rec σ (nI q + 5) = some ()) {σ : Sg} {n m : Nat} (h : RN n m σ) : f_law_2 N xs rec σ (nI q) = some () := by
  have i1 : ¬ (nI q + 1 < 0 ∨ N ≤ (nI q + 1).toNatClampNeg) := ig 1 (by decide) hq hN
  obtain ⟨c, σ1, b, σ2, e1, e2, e3, e4, hR⟩ := OK_upcut h (xs (nI q + 1).toNatClampNeg)
  unfold f_law_2
  simp only [if_neg i1]
  refine bd e1 ?_
  dsimp only
  refine bd e2 ?_
  dsimp only
  exact hrec σ2 hR
theorem k_3 {N : Nat} (hN : N < 2 ^ 30) {xs : Nat → Int32} {rec : Sg → Int32 → Option Unit} {q : Nat} (hq : q + 5 ≤ N) (hrec : ∀ σ : Sg, Rl σ → rec σ (nI q + 5) = some ()) {σ : Sg} {n m : Nat} (h : RN n m σ) : f_law_3 N xs rec σ (nI q) = some () := by
  have i1 : ¬ (nI q + 1 < 0 ∨ N ≤ (nI q + 1).toNatClampNeg) := ig 1 (by decide) hq hN
  obtain ⟨c, σ1, b, σ2, e1, e2, e3, e4, hR⟩ := OK_teeth h (xs (nI q + 1).toNatClampNeg)
  unfold f_law_3
  simp only [if_neg i1]
  refine bd e1 ?_
  dsimp only
  refine bd e2 ?_
  dsimp only
  exact hrec σ2 hR
theorem k_4 {N : Nat} (hN : N < 2 ^ 30) {xs : Nat → Int32} {rec : Sg → Int32 → Option Unit} {q : Nat} (hq : q + 5 ≤ N) (hrec : ∀ σ : Sg, Rl σ → rec σ (nI q + 5) = some ()) {σ : Sg} {n m : Nat} (h : RN n m σ) : f_law_4 N xs rec σ (nI q) = some () := by
  have i1 : ¬ (nI q + 1 < 0 ∨ N ≤ (nI q + 1).toNatClampNeg) := ig 1 (by decide) hq hN
  have i2 : ¬ (nI q + 2 < 0 ∨ N ≤ (nI q + 2).toNatClampNeg) := ig 2 (by decide) hq hN
  obtain ⟨c, σ1, b, σ2, e1, e2, e3, e4, hR⟩ := OK_place h (xs (nI q + 1).toNatClampNeg) (xs (nI q + 2).toNatClampNeg)
  unfold f_law_4
  simp only [if_neg i1, if_neg i2]
  refine bd e1 ?_
  dsimp only
  refine bd e2 ?_
  dsimp only
  exact hrec σ2 hR
theorem k_5 {N : Nat} (hN : N < 2 ^ 30) {xs : Nat → Int32} {rec : Sg → Int32 → Option Unit} {q : Nat} (hq : q + 5 ≤ N) (hrec : ∀ σ : Sg, Rl σ → rec σ (nI q + 5) = some ()) {σ : Sg} {n m : Nat} (h : RN n m σ) : f_law_5 N xs rec σ (nI q) = some () := by
  have i1 : ¬ (nI q + 1 < 0 ∨ N ≤ (nI q + 1).toNatClampNeg) := ig 1 (by decide) hq hN
  have i2 : ¬ (nI q + 2 < 0 ∨ N ≤ (nI q + 2).toNatClampNeg) := ig 2 (by decide) hq hN
  obtain ⟨c, σ1, b, σ2, e1, e2, e3, e4, hR⟩ := OK_height h (xs (nI q + 1).toNatClampNeg) (xs (nI q + 2).toNatClampNeg)
  unfold f_law_5
  simp only [if_neg i1, if_neg i2]
  refine bd e1 ?_
  dsimp only
  refine bd e2 ?_
  dsimp only
  exact hrec σ2 hR
theorem k_6 {N : Nat} (hN : N < 2 ^ 30) {xs : Nat → Int32} {rec : Sg → Int32 → Option Unit} {q : Nat} (hq : q + 5 ≤ N) (hrec : ∀ σ : Sg, Rl σ → rec σ (nI q + 5) = some ()) {σ : Sg} {n m : Nat} (h : RN n m σ) : f_law_6 N xs rec σ (nI q) = some () := by
  have i1 : ¬ (nI q + 1 < 0 ∨ N ≤ (nI q + 1).toNatClampNeg) := ig 1 (by decide) hq hN
  have i2 : ¬ (nI q + 2 < 0 ∨ N ≤ (nI q + 2).toNatClampNeg) := ig 2 (by decide) hq hN
  obtain ⟨c, σ1, b, σ2, e1, e2, e3, e4, hR⟩ := OK_wear h (xs (nI q + 1).toNatClampNeg) (xs (nI q + 2).toNatClampNeg)
  unfold f_law_6
  simp only [if_neg i1, if_neg i2]
  refine bd e1 ?_
  dsimp only
  refine bd e2 ?_
  dsimp only
  exact hrec σ2 hR
theorem k_7 {N : Nat} (hN : N < 2 ^ 30) {xs : Nat → Int32} {rec : Sg → Int32 → Option Unit} {q : Nat} (hq : q + 5 ≤ N) (hrec : ∀ σ : Sg, Rl σ → rec σ (nI q + 5) = some ()) {σ : Sg} {n m : Nat} (h : RN n m σ) : f_law_7 N xs rec σ (nI q) = some () := by
  have i1 : ¬ (nI q + 1 < 0 ∨ N ≤ (nI q + 1).toNatClampNeg) := ig 1 (by decide) hq hN
  obtain ⟨c, σ1, b, σ2, e1, e2, e3, e4, hR⟩ := OK_sings h (xs (nI q + 1).toNatClampNeg)
  unfold f_law_7
  simp only [if_neg i1]
  refine bd e1 ?_
  dsimp only
  refine bd e2 ?_
  dsimp only
  exact hrec σ2 hR
theorem k_8 {N : Nat} (hN : N < 2 ^ 30) {xs : Nat → Int32} {rec : Sg → Int32 → Option Unit} {q : Nat} (hq : q + 5 ≤ N) (hrec : ∀ σ : Sg, Rl σ → rec σ (nI q + 5) = some ()) {σ : Sg} {n m : Nat} (h : RN n m σ) : f_law_8 N xs rec σ (nI q) = some () := by
  have i1 : ¬ (nI q + 1 < 0 ∨ N ≤ (nI q + 1).toNatClampNeg) := ig 1 (by decide) hq hN
  have i2 : ¬ (nI q + 2 < 0 ∨ N ≤ (nI q + 2).toNatClampNeg) := ig 2 (by decide) hq hN
  obtain ⟨c, σ1, b, σ2, e1, e2, e3, e4, hR⟩ := OK_set h (xs (nI q + 1).toNatClampNeg) (xs (nI q + 2).toNatClampNeg)
  unfold f_law_8
  simp only [if_neg i1, if_neg i2]
  refine bd e1 ?_
  dsimp only
  refine bd e2 ?_
  dsimp only
  exact hrec σ2 hR
theorem k_9 {N : Nat} (hN : N < 2 ^ 30) {xs : Nat → Int32} {rec : Sg → Int32 → Option Unit} {q : Nat} (hq : q + 5 ≤ N) (hrec : ∀ σ : Sg, Rl σ → rec σ (nI q + 5) = some ()) {σ : Sg} {n m : Nat} (h : RN n m σ) : f_law_9 N xs rec σ (nI q) = some () := by
  have i1 : ¬ (nI q + 1 < 0 ∨ N ≤ (nI q + 1).toNatClampNeg) := ig 1 (by decide) hq hN
  obtain ⟨c, σ1, b, σ2, e1, e2, e3, e4, hR⟩ := OK_kerf h (xs (nI q + 1).toNatClampNeg)
  unfold f_law_9
  simp only [if_neg i1]
  refine bd e1 ?_
  dsimp only
  refine bd e2 ?_
  dsimp only
  exact hrec σ2 hR
theorem k_10 {N : Nat} (hN : N < 2 ^ 30) {xs : Nat → Int32} {rec : Sg → Int32 → Option Unit} {q : Nat} (hq : q + 5 ≤ N) (hrec : ∀ σ : Sg, Rl σ → rec σ (nI q + 5) = some ()) {σ : Sg} {n m : Nat} (h : RN n m σ) : f_law_10 N xs rec σ (nI q) = some () := by
  have i1 : ¬ (nI q + 1 < 0 ∨ N ≤ (nI q + 1).toNatClampNeg) := ig 1 (by decide) hq hN
  obtain ⟨c, σ1, b, σ2, e1, e2, e3, e4, hR⟩ := OK_gullets h (xs (nI q + 1).toNatClampNeg)
  unfold f_law_10
  simp only [if_neg i1]
  refine bd e1 ?_
  dsimp only
  refine bd e2 ?_
  dsimp only
  exact hrec σ2 hR
theorem k_11 {N : Nat} (hN : N < 2 ^ 30) {xs : Nat → Int32} {rec : Sg → Int32 → Option Unit} {q : Nat} (hq : q + 5 ≤ N) (hrec : ∀ σ : Sg, Rl σ → rec σ (nI q + 5) = some ()) {σ : Sg} {n m : Nat} (h : RN n m σ) : f_law_11 N xs rec σ (nI q) = some () := by
  have i1 : ¬ (nI q + 1 < 0 ∨ N ≤ (nI q + 1).toNatClampNeg) := ig 1 (by decide) hq hN
  obtain ⟨c, σ1, b, σ2, e1, e2, e3, e4, hR⟩ := OK_thickness h (xs (nI q + 1).toNatClampNeg)
  unfold f_law_11
  simp only [if_neg i1]
  refine bd e1 ?_
  dsimp only
  refine bd e2 ?_
  dsimp only
  exact hrec σ2 hR
theorem k_12 {N : Nat} (hN : N < 2 ^ 30) {xs : Nat → Int32} {rec : Sg → Int32 → Option Unit} {q : Nat} (hq : q + 5 ≤ N) (hrec : ∀ σ : Sg, Rl σ → rec σ (nI q + 5) = some ()) {σ : Sg} {n m : Nat} (h : RN n m σ) : f_law_12 N xs rec σ (nI q) = some () := by
  have i1 : ¬ (nI q + 1 < 0 ∨ N ≤ (nI q + 1).toNatClampNeg) := ig 1 (by decide) hq hN
  obtain ⟨c, σ1, b, σ2, e1, e2, e3, e4, hR⟩ := OK_state h (xs (nI q + 1).toNatClampNeg)
  unfold f_law_12
  simp only [if_neg i1]
  refine bd e1 ?_
  dsimp only
  refine bd e2 ?_
  dsimp only
  exact hrec σ2 hR
theorem k_13 {N : Nat} (hN : N < 2 ^ 30) {xs : Nat → Int32} {rec : Sg → Int32 → Option Unit} {q : Nat} (hq : q + 5 ≤ N) (hrec : ∀ σ : Sg, Rl σ → rec σ (nI q + 5) = some ()) {σ : Sg} {n m : Nat} (h : RN n m σ) : f_law_13 N xs rec σ (nI q) = some () := by
  have i1 : ¬ (nI q + 1 < 0 ∨ N ≤ (nI q + 1).toNatClampNeg) := ig 1 (by decide) hq hN
  have i2 : ¬ (nI q + 2 < 0 ∨ N ≤ (nI q + 2).toNatClampNeg) := ig 2 (by decide) hq hN
  have i3 : ¬ (nI q + 3 < 0 ∨ N ≤ (nI q + 3).toNatClampNeg) := ig 3 (by decide) hq hN
  obtain ⟨c, σ1, b, σ2, e1, e2, e3, e4, hR⟩ := OK_harden h (xs (nI q + 1).toNatClampNeg) (xs (nI q + 2).toNatClampNeg) ((xs (nI q + 3).toNatClampNeg).toUInt32 % 65536).toInt32
  unfold f_law_13
  simp only [if_neg i1, if_neg i2, if_neg i3]
  refine bd e1 ?_
  dsimp only
  refine bd e2 ?_
  dsimp only
  exact hrec σ2 hR
theorem k_14 {N : Nat} (hN : N < 2 ^ 30) {xs : Nat → Int32} {rec : Sg → Int32 → Option Unit} {q : Nat} (hq : q + 5 ≤ N) (hrec : ∀ σ : Sg, Rl σ → rec σ (nI q + 5) = some ()) {σ : Sg} {n m : Nat} (h : RN n m σ) : f_law_14 N xs rec σ (nI q) = some () := by
  have i1 : ¬ (nI q + 1 < 0 ∨ N ≤ (nI q + 1).toNatClampNeg) := ig 1 (by decide) hq hN
  obtain ⟨c, σ1, b, σ2, e1, e2, e3, e4, hR⟩ := OK_hardness h (xs (nI q + 1).toNatClampNeg)
  unfold f_law_14
  simp only [if_neg i1]
  refine bd e1 ?_
  dsimp only
  refine bd e2 ?_
  dsimp only
  exact hrec σ2 hR
theorem k_15 {N : Nat} (hN : N < 2 ^ 30) {xs : Nat → Int32} {rec : Sg → Int32 → Option Unit} {q : Nat} (hq : q + 5 ≤ N) (hrec : ∀ σ : Sg, Rl σ → rec σ (nI q + 5) = some ()) {σ : Sg} {n m : Nat} (h : RN n m σ) : f_law_15 N xs rec σ (nI q) = some () := by
  have i1 : ¬ (nI q + 1 < 0 ∨ N ≤ (nI q + 1).toNatClampNeg) := ig 1 (by decide) hq hN
  obtain ⟨c, σ1, b, σ2, e1, e2, e3, e4, hR⟩ := OK_bend h (xs (nI q + 1).toNatClampNeg)
  unfold f_law_15
  simp only [if_neg i1]
  refine bd e1 ?_
  dsimp only
  refine bd e2 ?_
  dsimp only
  exact hrec σ2 hR
theorem k_16 {N : Nat} (hN : N < 2 ^ 30) {xs : Nat → Int32} {rec : Sg → Int32 → Option Unit} {q : Nat} (hq : q + 5 ≤ N) (hrec : ∀ σ : Sg, Rl σ → rec σ (nI q + 5) = some ()) {σ : Sg} {n m : Nat} (h : RN n m σ) : f_law_16 N xs rec σ (nI q) = some () := by
  have i1 : ¬ (nI q + 1 < 0 ∨ N ≤ (nI q + 1).toNatClampNeg) := ig 1 (by decide) hq hN
  have i2 : ¬ (nI q + 2 < 0 ∨ N ≤ (nI q + 2).toNatClampNeg) := ig 2 (by decide) hq hN
  obtain ⟨c, σ1, b, σ2, e1, e2, e3, e4, hR⟩ := OK_temper h (xs (nI q + 1).toNatClampNeg) (xs (nI q + 2).toNatClampNeg)
  unfold f_law_16
  simp only [if_neg i1, if_neg i2]
  refine bd e1 ?_
  dsimp only
  refine bd e2 ?_
  dsimp only
  exact hrec σ2 hR
theorem k_17 {N : Nat} (hN : N < 2 ^ 30) {xs : Nat → Int32} {rec : Sg → Int32 → Option Unit} {q : Nat} (hq : q + 5 ≤ N) (hrec : ∀ σ : Sg, Rl σ → rec σ (nI q + 5) = some ()) {σ : Sg} {n m : Nat} (h : RN n m σ) : f_law_17 N xs rec σ (nI q) = some () := by
  have i1 : ¬ (nI q + 1 < 0 ∨ N ≤ (nI q + 1).toNatClampNeg) := ig 1 (by decide) hq hN
  have i2 : ¬ (nI q + 2 < 0 ∨ N ≤ (nI q + 2).toNatClampNeg) := ig 2 (by decide) hq hN
  obtain ⟨c, σ1, b, σ2, e1, e2, e3, e4, hR⟩ := OK_straighten h (xs (nI q + 1).toNatClampNeg) (xs (nI q + 2).toNatClampNeg)
  unfold f_law_17
  simp only [if_neg i1, if_neg i2]
  refine bd e1 ?_
  dsimp only
  refine bd e2 ?_
  dsimp only
  exact hrec σ2 hR
theorem k_18 {N : Nat} (hN : N < 2 ^ 30) {xs : Nat → Int32} {rec : Sg → Int32 → Option Unit} {q : Nat} (hq : q + 5 ≤ N) (hrec : ∀ σ : Sg, Rl σ → rec σ (nI q + 5) = some ()) {σ : Sg} {n m : Nat} (h : RN n m σ) : f_law_18 N xs rec σ (nI q) = some () := by
  have i1 : ¬ (nI q + 1 < 0 ∨ N ≤ (nI q + 1).toNatClampNeg) := ig 1 (by decide) hq hN
  obtain ⟨c, σ1, b, σ2, e1, e2, e3, e4, hR⟩ := OK_seed h (xs (nI q + 1).toNatClampNeg)
  unfold f_law_18
  simp only [if_neg i1]
  refine bd e1 ?_
  dsimp only
  refine bd e2 ?_
  dsimp only
  exact hrec σ2 hR
theorem k_19 {N : Nat} (hN : N < 2 ^ 30) {xs : Nat → Int32} {rec : Sg → Int32 → Option Unit} {q : Nat} (hq : q + 5 ≤ N) (hrec : ∀ σ : Sg, Rl σ → rec σ (nI q + 5) = some ()) {σ : Sg} {n m : Nat} (h : RN n m σ) : f_law_19 N xs rec σ (nI q) = some () := by
  have i1 : ¬ (nI q + 1 < 0 ∨ N ≤ (nI q + 1).toNatClampNeg) := ig 1 (by decide) hq hN
  have i2 : ¬ (nI q + 2 < 0 ∨ N ≤ (nI q + 2).toNatClampNeg) := ig 2 (by decide) hq hN
  have i3 : ¬ (nI q + 3 < 0 ∨ N ≤ (nI q + 3).toNatClampNeg) := ig 3 (by decide) hq hN
  obtain ⟨c, σ1, b, σ2, e1, e2, e3, e4, hR⟩ := OK_strokes h (xs (nI q + 1).toNatClampNeg) (xs (nI q + 2).toNatClampNeg) (xs (nI q + 3).toNatClampNeg)
  unfold f_law_19
  simp only [if_neg i1, if_neg i2, if_neg i3]
  refine bd e1 ?_
  dsimp only
  refine bd e2 ?_
  dsimp only
  exact hrec σ2 hR
theorem k_20 {N : Nat} (hN : N < 2 ^ 30) {xs : Nat → Int32} {rec : Sg → Int32 → Option Unit} {q : Nat} (hq : q + 5 ≤ N) (hrec : ∀ σ : Sg, Rl σ → rec σ (nI q + 5) = some ()) {σ : Sg} {n m : Nat} (h : RN n m σ) : f_law_20 N xs rec σ (nI q) = some () := by
  have i1 : ¬ (nI q + 1 < 0 ∨ N ≤ (nI q + 1).toNatClampNeg) := ig 1 (by decide) hq hN
  obtain ⟨c, σ1, b, σ2, e1, e2, e3, e4, hR⟩ := OK_chips h (xs (nI q + 1).toNatClampNeg)
  unfold f_law_20
  simp only [if_neg i1]
  refine bd e1 ?_
  dsimp only
  refine bd e2 ?_
  dsimp only
  exact hrec σ2 hR
theorem k_21 {N : Nat} (hN : N < 2 ^ 30) {xs : Nat → Int32} {rec : Sg → Int32 → Option Unit} {q : Nat} (hq : q + 5 ≤ N) (hrec : ∀ σ : Sg, Rl σ → rec σ (nI q + 5) = some ()) {σ : Sg} {n m : Nat} (h : RN n m σ) : f_law_21 N xs rec σ (nI q) = some () := by
  have i1 : ¬ (nI q + 1 < 0 ∨ N ≤ (nI q + 1).toNatClampNeg) := ig 1 (by decide) hq hN
  obtain ⟨c, σ1, b, σ2, e1, e2, e3, e4, hR⟩ := OK_brush h (xs (nI q + 1).toNatClampNeg)
  unfold f_law_21
  simp only [if_neg i1]
  refine bd e1 ?_
  dsimp only
  refine bd e2 ?_
  dsimp only
  exact hrec σ2 hR
theorem k_22 {N : Nat} (hN : N < 2 ^ 30) {xs : Nat → Int32} {rec : Sg → Int32 → Option Unit} {q : Nat} (hq : q + 5 ≤ N) (hrec : ∀ σ : Sg, Rl σ → rec σ (nI q + 5) = some ()) {σ : Sg} {n m : Nat} (h : RN n m σ) : f_law_22 N xs rec σ (nI q) = some () := by
  have i1 : ¬ (nI q + 1 < 0 ∨ N ≤ (nI q + 1).toNatClampNeg) := ig 1 (by decide) hq hN
  obtain ⟨c, σ1, b, σ2, e1, e2, e3, e4, hR⟩ := OK_work h (xs (nI q + 1).toNatClampNeg)
  unfold f_law_22
  simp only [if_neg i1]
  refine bd e1 ?_
  dsimp only
  refine bd e2 ?_
  dsimp only
  exact hrec σ2 hR
theorem k_23 {N : Nat} (hN : N < 2 ^ 30) {xs : Nat → Int32} {rec : Sg → Int32 → Option Unit} {q : Nat} (hq : q + 5 ≤ N) (hrec : ∀ σ : Sg, Rl σ → rec σ (nI q + 5) = some ()) {σ : Sg} {n m : Nat} (h : RN n m σ) : f_law_23 N xs rec σ (nI q) = some () := by
  have i1 : ¬ (nI q + 1 < 0 ∨ N ≤ (nI q + 1).toNatClampNeg) := ig 1 (by decide) hq hN
  obtain ⟨c, σ1, b, σ2, e1, e2, e3, e4, hR⟩ := OK_soften h (xs (nI q + 1).toNatClampNeg)
  unfold f_law_23
  simp only [if_neg i1]
  refine bd e1 ?_
  dsimp only
  refine bd e2 ?_
  dsimp only
  exact hrec σ2 hR
theorem k_24 {N : Nat} (hN : N < 2 ^ 30) {xs : Nat → Int32} {rec : Sg → Int32 → Option Unit} {q : Nat} (hq : q + 5 ≤ N) (hrec : ∀ σ : Sg, Rl σ → rec σ (nI q + 5) = some ()) {σ : Sg} {n m : Nat} (h : RN n m σ) : f_law_24 N xs rec σ (nI q) = some () := by
  have i1 : ¬ (nI q + 1 < 0 ∨ N ≤ (nI q + 1).toNatClampNeg) := ig 1 (by decide) hq hN
  obtain ⟨c, σ1, b, σ2, e1, e2, e3, e4, hR⟩ := OK_grind h (xs (nI q + 1).toNatClampNeg)
  unfold f_law_24
  simp only [if_neg i1]
  refine bd e1 ?_
  dsimp only
  refine bd e2 ?_
  dsimp only
  exact hrec σ2 hR
theorem k_25 {N : Nat} (hN : N < 2 ^ 30) {xs : Nat → Int32} {rec : Sg → Int32 → Option Unit} {q : Nat} (hq : q + 5 ≤ N) (hrec : ∀ σ : Sg, Rl σ → rec σ (nI q + 5) = some ()) {σ : Sg} {n m : Nat} (h : RN n m σ) : f_law_25 N xs rec σ (nI q) = some () := by
  have i1 : ¬ (nI q + 1 < 0 ∨ N ≤ (nI q + 1).toNatClampNeg) := ig 1 (by decide) hq hN
  obtain ⟨c, σ1, b, σ2, e1, e2, e3, e4, hR⟩ := OK_recuts h (xs (nI q + 1).toNatClampNeg)
  unfold f_law_25
  simp only [if_neg i1]
  refine bd e1 ?_
  dsimp only
  refine bd e2 ?_
  dsimp only
  exact hrec σ2 hR
theorem k_26 {N : Nat} (hN : N < 2 ^ 30) {xs : Nat → Int32} {rec : Sg → Int32 → Option Unit} {q : Nat} (hq : q + 5 ≤ N) (hrec : ∀ σ : Sg, Rl σ → rec σ (nI q + 5) = some ()) {σ : Sg} {n m : Nat} (h : RN n m σ) : f_law_26 N xs rec σ (nI q) = some () := by
  have i1 : ¬ (nI q + 1 < 0 ∨ N ≤ (nI q + 1).toNatClampNeg) := ig 1 (by decide) hq hN
  have i2 : ¬ (nI q + 2 < 0 ∨ N ≤ (nI q + 2).toNatClampNeg) := ig 2 (by decide) hq hN
  obtain ⟨c, σ1, b, σ2, e1, e2, e3, e4, hR⟩ := OK_recutsLeft h (xs (nI q + 1).toNatClampNeg) ((xs (nI q + 2).toNatClampNeg).toUInt32 % 65536).toInt32
  unfold f_law_26
  simp only [if_neg i1, if_neg i2]
  refine bd e1 ?_
  dsimp only
  refine bd e2 ?_
  dsimp only
  exact hrec σ2 hR
theorem k_27 {N : Nat} (hN : N < 2 ^ 30) {xs : Nat → Int32} {rec : Sg → Int32 → Option Unit} {q : Nat} (hq : q + 5 ≤ N) (hrec : ∀ σ : Sg, Rl σ → rec σ (nI q + 5) = some ()) {σ : Sg} {n m : Nat} (h : RN n m σ) : f_law_27 N xs rec σ (nI q) = some () := by
  have i1 : ¬ (nI q + 1 < 0 ∨ N ≤ (nI q + 1).toNatClampNeg) := ig 1 (by decide) hq hN
  have i2 : ¬ (nI q + 2 < 0 ∨ N ≤ (nI q + 2).toNatClampNeg) := ig 2 (by decide) hq hN
  have i3 : ¬ (nI q + 3 < 0 ∨ N ≤ (nI q + 3).toNatClampNeg) := ig 3 (by decide) hq hN
  obtain ⟨c, σ1, b, σ2, e1, e2, e3, e4, hR⟩ := OK_order h ((xs (nI q + 1).toNatClampNeg).toUInt32 % 65536).toInt32 ((xs (nI q + 2).toNatClampNeg).toUInt32 % 65536).toInt32 (xs (nI q + 3).toNatClampNeg) (char_ok _) (char_ok _)
  unfold f_law_27
  simp only [if_neg i1, if_neg i2, if_neg i3]
  refine bd e1 ?_
  dsimp only
  refine bd e2 ?_
  dsimp only
  exact hrec σ2 hR
theorem k_28 {N : Nat} (hN : N < 2 ^ 30) {xs : Nat → Int32} {rec : Sg → Int32 → Option Unit} {q : Nat} (hq : q + 5 ≤ N) (hrec : ∀ σ : Sg, Rl σ → rec σ (nI q + 5) = some ()) {σ : Sg} {n m : Nat} (h : RN n m σ) : f_law_28 N xs rec σ (nI q) = some () := by
  have i1 : ¬ (nI q + 1 < 0 ∨ N ≤ (nI q + 1).toNatClampNeg) := ig 1 (by decide) hq hN
  have i2 : ¬ (nI q + 2 < 0 ∨ N ≤ (nI q + 2).toNatClampNeg) := ig 2 (by decide) hq hN
  obtain ⟨c, σ1, b, σ2, e1, e2, e3, e4, hR⟩ := OK_isGood h (xs (nI q + 1).toNatClampNeg) (xs (nI q + 2).toNatClampNeg)
  unfold f_law_28
  simp only [if_neg i1, if_neg i2]
  refine bd e1 ?_
  dsimp only
  refine bd e2 ?_
  dsimp only
  exact hrec σ2 hR
theorem k_29 {N : Nat} (hN : N < 2 ^ 30) {xs : Nat → Int32} {rec : Sg → Int32 → Option Unit} {q : Nat} (hq : q + 5 ≤ N) (hrec : ∀ σ : Sg, Rl σ → rec σ (nI q + 5) = some ()) {σ : Sg} {n m : Nat} (h : RN n m σ) : f_law_29 N xs rec σ (nI q) = some () := by
  have i1 : ¬ (nI q + 1 < 0 ∨ N ≤ (nI q + 1).toNatClampNeg) := ig 1 (by decide) hq hN
  have i2 : ¬ (nI q + 2 < 0 ∨ N ≤ (nI q + 2).toNatClampNeg) := ig 2 (by decide) hq hN
  obtain ⟨c, σ1, b, σ2, e1, e2, e3, e4, hR⟩ := OK_send h (xs (nI q + 1).toNatClampNeg) (xs (nI q + 2).toNatClampNeg)
  unfold f_law_29
  simp only [if_neg i1, if_neg i2]
  refine bd e1 ?_
  dsimp only
  refine bd e2 ?_
  dsimp only
  exact hrec σ2 hR
theorem k_30 {N : Nat} (hN : N < 2 ^ 30) {xs : Nat → Int32} {rec : Sg → Int32 → Option Unit} {q : Nat} (hq : q + 5 ≤ N) (hrec : ∀ σ : Sg, Rl σ → rec σ (nI q + 5) = some ()) {σ : Sg} {n m : Nat} (h : RN n m σ) : f_law_30 N xs rec σ (nI q) = some () := by
  have i1 : ¬ (nI q + 1 < 0 ∨ N ≤ (nI q + 1).toNatClampNeg) := ig 1 (by decide) hq hN
  obtain ⟨c, σ1, b, σ2, e1, e2, e3, e4, hR⟩ := OK_sent h (xs (nI q + 1).toNatClampNeg)
  unfold f_law_30
  simp only [if_neg i1]
  refine bd e1 ?_
  dsimp only
  refine bd e2 ?_
  dsimp only
  exact hrec σ2 hR
theorem k_31 {N : Nat} (hN : N < 2 ^ 30) {xs : Nat → Int32} {rec : Sg → Int32 → Option Unit} {q : Nat} (hq : q + 5 ≤ N) (hrec : ∀ σ : Sg, Rl σ → rec σ (nI q + 5) = some ()) {σ : Sg} {n m : Nat} (h : RN n m σ) : f_law_31 N xs rec σ (nI q) = some () := by
  obtain ⟨c, σ1, b, σ2, e1, e2, e3, e4, hR, -⟩ := OK_wornShare h
  unfold f_law_31
  refine bd e1 ?_
  dsimp only
  refine bd e2 ?_
  dsimp only
  exact hrec σ2 hR
theorem k_32 {N : Nat} (hN : N < 2 ^ 30) {xs : Nat → Int32} {rec : Sg → Int32 → Option Unit} {q : Nat} (hq : q + 5 ≤ N) (hrec : ∀ σ : Sg, Rl σ → rec σ (nI q + 5) = some ()) {σ : Sg} {n m : Nat} (h : RN n m σ) : f_law_32 N xs rec σ (nI q) = some () := by
  obtain ⟨c, σ1, b, σ2, e1, e2, e3, e4, hR⟩ := OK_meanHardness h
  unfold f_law_32
  refine bd e1 ?_
  dsimp only
  refine bd e2 ?_
  dsimp only
  exact hrec σ2 hR
theorem k_33 {N : Nat} (hN : N < 2 ^ 30) {xs : Nat → Int32} {rec : Sg → Int32 → Option Unit} {q : Nat} (hq : q + 5 ≤ N) (hrec : ∀ σ : Sg, Rl σ → rec σ (nI q + 5) = some ()) {σ : Sg} {n m : Nat} (h : RN n m σ) : f_law_33 N xs rec σ (nI q) = some () := by
  obtain ⟨v, e1, e2, hR⟩ := OK_checksum h
  unfold f_law_33
  refine bd e1 ?_
  dsimp only
  refine bd e2 ?_
  dsimp only
  rw [if_pos (lgs v)]
  exact hrec _ hR
theorem k_34 {N : Nat} (hN : N < 2 ^ 30) {xs : Nat → Int32} {rec : Sg → Int32 → Option Unit} {q : Nat} (hq : q + 5 ≤ N) (hrec : ∀ σ : Sg, Rl σ → rec σ (nI q + 5) = some ()) {σ : Sg} {n m : Nat} (h : RN n m σ) : f_law_34 N xs rec σ (nI q) = some () := by
  obtain ⟨v, τ, e1, e2, hR⟩ := OK_isSound h
  unfold f_law_34
  refine bd e1 ?_
  dsimp only
  refine bd e2 ?_
  dsimp only
  exact hrec _ hR
theorem law_sw {N : Nat} (hN : N < 2 ^ 30) {xs : Nat → Int32} {rec : Sg → Int32 → Option Unit} {q : Nat} (hq : q + 5 ≤ N) (hrec : ∀ σ : Sg, Rl σ → rec σ (nI q + 5) = some ()) {σ : Sg} {n m : Nat} (h : RN n m σ) (v : Int32) : f_law_sw N xs rec σ (nI q) v = some () := by
  unfold f_law_sw
  by_cases hv : v.toInt < 0 ∨ 34 < v.toInt
  · rw [if_pos hv]; exact hrec σ ⟨n, m, h⟩
  rw [if_neg hv]
  by_cases e0 : v.toInt = 0
  · rw [if_pos e0]; exact k_0 hN hq hrec h
  rw [if_neg e0]
  by_cases e1 : v.toInt = 1
  · rw [if_pos e1]; exact k_1 hN hq hrec h
  rw [if_neg e1]
  by_cases e2 : v.toInt = 2
  · rw [if_pos e2]; exact k_2 hN hq hrec h
  rw [if_neg e2]
  by_cases e3 : v.toInt = 3
  · rw [if_pos e3]; exact k_3 hN hq hrec h
  rw [if_neg e3]
  by_cases e4 : v.toInt = 4
  · rw [if_pos e4]; exact k_4 hN hq hrec h
  rw [if_neg e4]
  by_cases e5 : v.toInt = 5
  · rw [if_pos e5]; exact k_5 hN hq hrec h
  rw [if_neg e5]
  by_cases e6 : v.toInt = 6
  · rw [if_pos e6]; exact k_6 hN hq hrec h
  rw [if_neg e6]
  by_cases e7 : v.toInt = 7
  · rw [if_pos e7]; exact k_7 hN hq hrec h
  rw [if_neg e7]
  by_cases e8 : v.toInt = 8
  · rw [if_pos e8]; exact k_8 hN hq hrec h
  rw [if_neg e8]
  by_cases e9 : v.toInt = 9
  · rw [if_pos e9]; exact k_9 hN hq hrec h
  rw [if_neg e9]
  by_cases e10 : v.toInt = 10
  · rw [if_pos e10]; exact k_10 hN hq hrec h
  rw [if_neg e10]
  by_cases e11 : v.toInt = 11
  · rw [if_pos e11]; exact k_11 hN hq hrec h
  rw [if_neg e11]
  by_cases e12 : v.toInt = 12
  · rw [if_pos e12]; exact k_12 hN hq hrec h
  rw [if_neg e12]
  by_cases e13 : v.toInt = 13
  · rw [if_pos e13]; exact k_13 hN hq hrec h
  rw [if_neg e13]
  by_cases e14 : v.toInt = 14
  · rw [if_pos e14]; exact k_14 hN hq hrec h
  rw [if_neg e14]
  by_cases e15 : v.toInt = 15
  · rw [if_pos e15]; exact k_15 hN hq hrec h
  rw [if_neg e15]
  by_cases e16 : v.toInt = 16
  · rw [if_pos e16]; exact k_16 hN hq hrec h
  rw [if_neg e16]
  by_cases e17 : v.toInt = 17
  · rw [if_pos e17]; exact k_17 hN hq hrec h
  rw [if_neg e17]
  by_cases e18 : v.toInt = 18
  · rw [if_pos e18]; exact k_18 hN hq hrec h
  rw [if_neg e18]
  by_cases e19 : v.toInt = 19
  · rw [if_pos e19]; exact k_19 hN hq hrec h
  rw [if_neg e19]
  by_cases e20 : v.toInt = 20
  · rw [if_pos e20]; exact k_20 hN hq hrec h
  rw [if_neg e20]
  by_cases e21 : v.toInt = 21
  · rw [if_pos e21]; exact k_21 hN hq hrec h
  rw [if_neg e21]
  by_cases e22 : v.toInt = 22
  · rw [if_pos e22]; exact k_22 hN hq hrec h
  rw [if_neg e22]
  by_cases e23 : v.toInt = 23
  · rw [if_pos e23]; exact k_23 hN hq hrec h
  rw [if_neg e23]
  by_cases e24 : v.toInt = 24
  · rw [if_pos e24]; exact k_24 hN hq hrec h
  rw [if_neg e24]
  by_cases e25 : v.toInt = 25
  · rw [if_pos e25]; exact k_25 hN hq hrec h
  rw [if_neg e25]
  by_cases e26 : v.toInt = 26
  · rw [if_pos e26]; exact k_26 hN hq hrec h
  rw [if_neg e26]
  by_cases e27 : v.toInt = 27
  · rw [if_pos e27]; exact k_27 hN hq hrec h
  rw [if_neg e27]
  by_cases e28 : v.toInt = 28
  · rw [if_pos e28]; exact k_28 hN hq hrec h
  rw [if_neg e28]
  by_cases e29 : v.toInt = 29
  · rw [if_pos e29]; exact k_29 hN hq hrec h
  rw [if_neg e29]
  by_cases e30 : v.toInt = 30
  · rw [if_pos e30]; exact k_30 hN hq hrec h
  rw [if_neg e30]
  by_cases e31 : v.toInt = 31
  · rw [if_pos e31]; exact k_31 hN hq hrec h
  rw [if_neg e31]
  by_cases e32 : v.toInt = 32
  · rw [if_pos e32]; exact k_32 hN hq hrec h
  rw [if_neg e32]
  by_cases e33 : v.toInt = 33
  · rw [if_pos e33]; exact k_33 hN hq hrec h
  rw [if_neg e33]
  by_cases e34 : v.toInt = 34
  · rw [if_pos e34]; exact k_34 hN hq hrec h
  rw [if_neg e34]
  exact absurd hv (by omega)
theorem law_all {L : Nat} (hL : L < 2 ^ 30) (xs : Nat → Int32) : ∀ (fu q : Nat) (σ : Sg), Rl σ → q ≤ L + 5 → L < q + 5 * (fu + 1) → f_law_loop L xs (fu + 1) σ (nI q) = some () := by
  intro fu
  induction fu with
  | zero =>
    intro q σ hR hq hf
    show g_law L xs (f_law_loop L xs 0) σ (nI q) = _
    unfold g_law
    rw [if_pos (show Int32.ofNat L - 5 < nI q by
      show nI L - nI 5 < nI q
      rw [Int32.lt_iff_toInt_lt, pk_sub_toInt (by omega) (by omega), nI_toInt (by omega)]
      omega)]
  | succ fu ih =>
    intro q σ hR hq hf
    show g_law L xs (f_law_loop L xs (fu + 1)) σ (nI q) = _
    unfold g_law
    by_cases hlast : L < q + 5
    · rw [if_pos (show Int32.ofNat L - 5 < nI q by
        show nI L - nI 5 < nI q
        rw [Int32.lt_iff_toInt_lt, pk_sub_toInt (by omega) (by omega), nI_toInt (by omega)]
        omega)]
    · rw [if_neg (show ¬ Int32.ofNat L - 5 < nI q by
        show ¬ nI L - nI 5 < nI q
        rw [Int32.lt_iff_toInt_lt, pk_sub_toInt (by omega) (by omega), nI_toInt (by omega)]
        omega), if_neg (fun r => by
        rw [nI_clamp (by omega)] at r
        exact r.elim (nI_pos (by omega)) (fun r => by omega))]
      obtain ⟨n, m, h⟩ := hR
      refine law_sw hL (by omega) (fun τ hτ => ?_) h _
      have := ih (q + 5) τ hτ (by omega) (by omega)
      rw [← nI_add] at this
      exact this
theorem sg0_ok : RN 0 0 sg0 := ⟨by decide, by decide, by decide, by decide, by decide, by decide, by decide, by decide, by decide, fun _ _ => rfl, fun _ _ => rfl, fun _ hj => absurd hj (Nat.not_lt_zero _), fun _ hj => absurd hj (Nat.not_lt_zero _), fun _ _ _ _ _ _ => rfl, fun _ _ _ => rfl⟩
theorem law_true {L : Nat} {xs : Nat → Int32} (hL : L ≤ 2560) : f_law_loop L xs 513 sg0 0 = some () := by
  have h := law_all (show L < 2 ^ 30 by omega) xs 512 0 sg0 ⟨0, 0, sg0_ok⟩ (Nat.zero_le _) (by omega)
  rw [nI_0] at h
  exact h
