/-! ONE WORLD FOR ALL METHODS. The cells of class, reference and law by role (kind, number); what they hold is one value of Sg; every method's contract speaks of the whole world: from a world that holds σ it comes to one that holds σ', and both answer and σ' are a Lean function of σ and the arguments (read off the bytecode by a program: wip/gen/gen.py), 'none' where the machine would throw by itself. -/
section
/-- numbers by kind, number and slot; the class's long; the law's two answers -/
abbrev Sg : Type := (Nat → Nat → Nat → Int32) × Int64 × Int64 × UInt64
def sv (σ : Sg) (k i p : Nat) (v : Int32) : Sg := (fun k' i' => if k' = k ∧ i' = i then upd (σ.1 k i) p v else σ.1 k' i', σ.2)
def svz (σ : Sg) (z : Int64) : Sg := (σ.1, z, σ.2.2)
def svo (σ : Sg) (o : Int64) : Sg := (σ.1, σ.2.1, o, σ.2.2.2)
def svd (σ : Sg) (d : UInt64) : Sg := (σ.1, σ.2.1, σ.2.2.1, d)
theorem sv_at (σ : Sg) (k i p : Nat) (v : Int32) : (sv σ k i p v).1 k i = upd (σ.1 k i) p v := if_pos ⟨rfl, rfl⟩
theorem sv_ne (σ : Sg) {k i k' i' : Nat} (p : Nat) (v : Int32) (h : ¬ (k' = k ∧ i' = i)) : (sv σ k i p v).1 k' i' = σ.1 k' i' := if_neg h
abbrev kcl : List vw_C := [(RX0, TX0, 4), (RX1, TX1, 8), (RX2, TX2, 14), (RX3, TX3, 6), (RX4, TX4, 28)]
def mL (i : Nat) : Nat := match i with | 20 => 480 | 21 => 480 | 24 => 6 | 25 => 6 | 26 => 6 | 27 => 6 | _ => 8
def mC (i : Nat) : Nat := match i with | 2 => 0 | 3 => 0 | 4 => 0 | 17 => 2 | 18 => 2 | 19 => 2 | 24 => 0 | 25 => 0 | _ => 1
abbrev tyl (cy : Nat → ClassId) : List (ClassId × FieldType) := [(cy 0, .char), (cy 1, .int), (cy 2, .boolean), (cy 3, .object RX0), (cy 4, .object RX2), (cy 5, .long), (cy 6, .double)]
/-- a cell of the kind k: 0 the shop, 1 a tool, 2 a row, 3 4 5 its places, heights, wears, 6 an order, 7 the reference, 8 its arrays by their field, 10 the shop's tools, 11 its orders, 12 and 13 the law's answers -/
def cr (ad : Nat → Nat → Nat) (cy : Nat → ClassId) (z : Int64 × Int64 × UInt64) (k i : Nat) (g : Nat → Int32) : va_E :=
  match k with
  | 0 => .inr (3, [.ref (ad 10 0), .int (g 1), .ref (ad 11 0), .int (g 3), .long z.1, .ref (ad 2 8)])
  | 1 => .inr (2, [.int (g 0), .int (g 1), .int (g 2), .int (g 3), .int (g 4), .ref (ad 2 i), .int (g 6), .int (g 7), .int (g 8), .int (g 9), .int (g 10), .int (g 11), .int (g 12), .int (g 13)])
  | 2 => .inr (1, [.int (g 0), .int (g 1), .int (g 2), .int (g 3), .int (g 4), .ref (ad 3 i), .ref (ad 4 i), .ref (ad 5 i)])
  | 3 => .inl (cy 1, 60, .inl g)
  | 4 => .inl (cy 1, 60, .inl g)
  | 5 => .inl (cy 1, 60, .inl g)
  | 6 => .inr (0, [.int (g 0), .int (g 1), .int (g 2), .int (g 3)])
  | 7 => .inr (4, [.int (g 0), .int (g 1), .ref (ad 8 2), .ref (ad 8 3), .ref (ad 8 4), .ref (ad 8 5), .ref (ad 8 6), .ref (ad 8 7), .ref (ad 8 8), .ref (ad 8 9), .ref (ad 8 10), .ref (ad 8 11), .ref (ad 8 12), .ref (ad 8 13), .ref (ad 8 14), .ref (ad 8 15), .ref (ad 8 16), .ref (ad 8 17), .ref (ad 8 18), .ref (ad 8 19), .ref (ad 8 20), .ref (ad 8 21), .int (g 22), .int (g 23), .ref (ad 8 24), .ref (ad 8 25), .ref (ad 8 26), .ref (ad 8 27)])
  | 8 => .inl (cy (mC i), mL i, .inl g)
  | 10 => .inl (cy 4, 8, .inr (.inr (.inr (.inr (fun j => if g j = 0 then none else some (ad 1 j))))))
  | 11 => .inl (cy 3, 6, .inr (.inr (.inr (.inr (fun j => if g j = 0 then none else some (ad 6 j))))))
  | 12 => .inl (cy 5, 1, .inr (.inl (fun j => if j = 0 then z.2.1 else 0)))
  | 13 => .inl (cy 6, 1, .inr (.inr (.inr (.inl (fun j => if j = 0 then z.2.2 else 0)))))
  | _ => .inl (cy 1, 0, .inl g)
def ce (ad : Nat → Nat → Nat) (cy : Nat → ClassId) (σ : Sg) (k i : Nat) : va_E := cr ad cy σ.2 k i (σ.1 k i)
def rb : List (Nat × Nat) := [(0, 0), (10, 0), (11, 0), (2, 8), (3, 8), (4, 8), (5, 8), (7, 0), (8, 2), (8, 3), (8, 4), (8, 5), (8, 6), (8, 7), (8, 8), (8, 9), (8, 10), (8, 11), (8, 12), (8, 13), (8, 14), (8, 15), (8, 16), (8, 17), (8, 18), (8, 19), (8, 20), (8, 21), (8, 24), (8, 25), (8, 26), (8, 27), (12, 0), (13, 0)]
def rt (nT : Nat) : List (Nat × Nat) := (List.range nT).flatMap (fun i => [(1, i), (2, i), (3, i), (4, i), (5, i)])
def ro (nO : Nat) : List (Nat × Nat) := (List.range nO).map (fun i => (6, i))
def rl (nT nO : Nat) : List (Nat × Nat) := rb ++ (rt nT ++ ro nO)
theorem rl_b {nT nO : Nat} {r : Nat × Nat} (h : r ∈ rb) : r ∈ rl nT nO := List.mem_append_left _ h
theorem rl_t {nT nO i k : Nat} (h : i < nT) (hk : (k, i) ∈ [(1, i), (2, i), (3, i), (4, i), (5, i)]) : (k, i) ∈ rl nT nO :=
  List.mem_append_right _ (List.mem_append_left _ (List.mem_flatMap.mpr ⟨i, List.mem_range.mpr h, hk⟩))
theorem rl_1 {nT nO i : Nat} (h : i < nT) : (1, i) ∈ rl nT nO := rl_t h (List.mem_cons_self)
theorem rl_2 {nT nO i : Nat} (h : i < nT ∨ i = 8) : (2, i) ∈ rl nT nO := by
  rcases h with h | rfl
  · exact rl_t h (by simp)
  · exact rl_b (by decide)
theorem rl_3 {nT nO i : Nat} (h : i < nT ∨ i = 8) : (3, i) ∈ rl nT nO := by
  rcases h with h | rfl
  · exact rl_t h (by simp)
  · exact rl_b (by decide)
theorem rl_4 {nT nO i : Nat} (h : i < nT ∨ i = 8) : (4, i) ∈ rl nT nO := by
  rcases h with h | rfl
  · exact rl_t h (by simp)
  · exact rl_b (by decide)
theorem rl_5 {nT nO i : Nat} (h : i < nT ∨ i = 8) : (5, i) ∈ rl nT nO := by
  rcases h with h | rfl
  · exact rl_t h (by simp)
  · exact rl_b (by decide)
theorem rl_6 {nT nO i : Nat} (h : i < nO) : (6, i) ∈ rl nT nO :=
  List.mem_append_right _ (List.mem_append_right _ (List.mem_map.mpr ⟨i, List.mem_range.mpr h, rfl⟩))
def wd (ad : Nat → Nat → Nat) (cy : Nat → ClassId) (σ : Sg) (nT nO : Nat) : va_W := (rl nT nO).map (fun r => (ad r.1 r.2, ce ad cy σ r.1 r.2))
theorem wd_get {ad : Nat → Nat → Nat} {cy : Nat → ClassId} {σ : Sg} {nT nO k i : Nat} (h : (k, i) ∈ rl nT nO) : ∃ q : Nat, (wd ad cy σ nT nO)[q]? = some (ad k i, ce ad cy σ k i) ∧ (rl nT nO)[q]? = some (k, i) := by
  obtain ⟨q, hq⟩ := List.getElem?_of_mem h
  refine ⟨q, ?_, hq⟩
  simp [wd, hq]
theorem wd_set {ad : Nat → Nat → Nat} {cy : Nat → ClassId} {σ σ' : Sg} {nT nO k i q : Nat} {A : Nat → Prop} (hD : va_D A (wd ad cy σ nT nO)) (hq : (rl nT nO)[q]? = some (k, i)) (hs : ∀ k' i' : Nat, (k', i') ∈ rl nT nO → ¬ (k' = k ∧ i' = i) → ce ad cy σ' k' i' = ce ad cy σ k' i') :
    (wd ad cy σ nT nO).set q (ad k i, ce ad cy σ' k i) = wd ad cy σ' nT nO := by
  apply List.ext_getElem?
  intro j
  have hw : ∀ (τ : Sg) (j : Nat), (wd ad cy τ nT nO)[j]? = ((rl nT nO)[j]?).map (fun r => (ad r.1 r.2, ce ad cy τ r.1 r.2)) := fun τ j => by simp [wd]
  rw [List.getElem?_set]
  by_cases hj : q = j
  · subst hj
    have hlt : q < (wd ad cy σ nT nO).length := by
      have := (List.getElem?_eq_some_iff.mp hq).1
      simpa [wd] using this
    rw [if_pos rfl, if_pos hlt, hw σ' q, hq]
    rfl
  · rw [if_neg hj, hw σ j, hw σ' j]
    cases hr : (rl nT nO)[j]? with
    | none => rfl
    | some r =>
      have hne : ¬ (r.1 = k ∧ r.2 = i) := fun h => by
        have h1 : (wd ad cy σ nT nO)[j]? = some (ad r.1 r.2, ce ad cy σ r.1 r.2) := by rw [hw σ j, hr]; rfl
        have h2 : (wd ad cy σ nT nO)[q]? = some (ad k i, ce ad cy σ k i) := by rw [hw σ q, hq]; rfl
        exact hj (hD.1 q j _ _ h2 h1 (by rw [h.1, h.2]))
      show some (ad r.1 r.2, ce ad cy σ r.1 r.2) = some (ad r.1 r.2, ce ad cy σ' r.1 r.2)
      rw [hs r.1 r.2 (List.mem_of_getElem? hr) hne]
theorem wd_D {ad : Nat → Nat → Nat} {cy : Nat → ClassId} {σ σ' : Sg} {nT nO : Nat} {A : Nat → Prop} (hD : va_D A (wd ad cy σ nT nO)) : va_D A (wd ad cy σ' nT nO) := by
  have hw : ∀ (τ : Sg) (j : Nat) (x : Nat × va_E), (wd ad cy τ nT nO)[j]? = some x → ∃ r, (rl nT nO)[j]? = some r ∧ x = (ad r.1 r.2, ce ad cy τ r.1 r.2) := fun τ j x h => by
    rw [show (wd ad cy τ nT nO)[j]? = ((rl nT nO)[j]?).map (fun r => (ad r.1 r.2, ce ad cy τ r.1 r.2)) by simp [wd]] at h
    cases hr : (rl nT nO)[j]? with
    | none => rw [hr] at h; cases h
    | some r => rw [hr] at h; exact ⟨r, rfl, (Option.some.inj h).symm⟩
  have hv : ∀ (j : Nat) (r : Nat × Nat), (rl nT nO)[j]? = some r → (wd ad cy σ nT nO)[j]? = some (ad r.1 r.2, ce ad cy σ r.1 r.2) := fun j r h => by simp [wd, h]
  refine ⟨fun i j x y hx hy hxy => ?_, fun k x hx => ?_⟩
  · obtain ⟨r1, h1, rfl⟩ := hw σ' i x hx
    obtain ⟨r2, h2, rfl⟩ := hw σ' j y hy
    exact hD.1 i j _ _ (hv i r1 h1) (hv j r2 h2) hxy
  · obtain ⟨r1, h1, rfl⟩ := hw σ' k x hx
    exact hD.2 k (ad r1.1 r1.2, ce ad cy σ r1.1 r1.2) (hv k r1 h1)
theorem ce_sv {ad : Nat → Nat → Nat} {cy : Nat → ClassId} {σ : Sg} {k i p : Nat} {v : Int32} (k' i' : Nat) (h : ¬ (k' = k ∧ i' = i)) : ce ad cy (sv σ k i p v) k' i' = ce ad cy σ k' i' := by
  unfold ce
  rw [sv_ne σ p v h]
  rfl
theorem ce_at {ad : Nat → Nat → Nat} {cy : Nat → ClassId} {σ : Sg} {k i p : Nat} {v : Int32} : ce ad cy (sv σ k i p v) k i = cr ad cy σ.2 k i (upd (σ.1 k i) p v) := by
  unfold ce
  rw [sv_at]
  rfl
theorem rl_z {nT nO k i : Nat} (h : (k, i) ∈ rl nT nO) (hk : k = 0 ∨ k = 12 ∨ k = 13) : i = 0 := by
  rcases List.mem_append.mp h with h | h
  · have h1 : ∀ r ∈ rb, (r.1 = 0 ∨ r.1 = 12 ∨ r.1 = 13) → r.2 = 0 := by decide
    exact h1 (k, i) h hk
  · rcases List.mem_append.mp h with h | h
    · obtain ⟨j, -, h⟩ := List.mem_flatMap.mp h
      simp at h
      omega
    · obtain ⟨j, -, h⟩ := List.mem_map.mp h
      cases h
      omega
theorem ce_svz {ad : Nat → Nat → Nat} {cy : Nat → ClassId} {σ : Sg} {z : Int64} (k' i' : Nat) (h : ¬ k' = 0) : ce ad cy (svz σ z) k' i' = ce ad cy σ k' i' := by
  unfold ce svz cr
  split <;> first | rfl | exact absurd rfl h
theorem ce_svo {ad : Nat → Nat → Nat} {cy : Nat → ClassId} {σ : Sg} {z : Int64} (k' i' : Nat) (h : ¬ k' = 12) : ce ad cy (svo σ z) k' i' = ce ad cy σ k' i' := by
  unfold ce svo cr
  split <;> first | rfl | exact absurd rfl h
theorem ce_svd {ad : Nat → Nat → Nat} {cy : Nat → ClassId} {σ : Sg} {z : UInt64} (k' i' : Nat) (h : ¬ k' = 13) : ce ad cy (svd σ z) k' i' = ce ad cy σ k' i' := by
  unfold ce svd cr
  split <;> first | rfl | exact absurd rfl h
/-- the flags of the shop's tools and orders point at things that are there -/
def Iv0 (nT nO : Nat) (σ : Sg) : Prop := (∀ j, ¬ σ.1 10 0 j = 0 → j < nT) ∧ ∀ j, ¬ σ.1 11 0 j = 0 → j < nO
/-- .. and the counts are the class's own -/
def Iv (nT nO : Nat) (σ : Sg) : Prop := Iv0 nT nO σ ∧ nT = (σ.1 0 0 1).toNatClampNeg ∧ nO = (σ.1 0 0 3).toNatClampNeg
theorem Iv0.sv {nT nO : Nat} {σ : Sg} (h : Iv0 nT nO σ) (k i p : Nat) (v : Int32) (h10 : ¬ k = 10) (h11 : ¬ k = 11) : Iv0 nT nO (sv σ k i p v) := by
  refine ⟨fun j hz => h.1 j ?_, fun j hz => h.2 j ?_⟩
  · rw [sv_ne σ p v (fun q => h10 q.1.symm)] at hz; exact hz
  · rw [sv_ne σ p v (fun q => h11 q.1.symm)] at hz; exact hz
theorem Iv.sv {nT nO : Nat} {σ : Sg} (h : Iv nT nO σ) (k i p : Nat) (v : Int32) (h10 : ¬ k = 10) (h11 : ¬ k = 11) (h0 : ¬ k = 0) : Iv nT nO (sv σ k i p v) := by
  refine ⟨h.1.sv k i p v h10 h11, ?_, ?_⟩
  · rw [sv_ne σ p v (fun q => h0 q.1.symm)]; exact h.2.1
  · rw [sv_ne σ p v (fun q => h0 q.1.symm)]; exact h.2.2
end
/-! contracts and judgement -/
section
def allw : List Cond := lw_tbl.filter goodWord
theorem allw_of {w : Cond} (h : w ∈ lw_tbl) (g : goodWord w = true) : w ∈ allw := List.mem_filter.mpr ⟨h, g⟩
theorem tw (i : Nat) {w : Cond} (h : tables_1[i]? = some w) (g : goodWord w = true) : w ∈ allw := allw_of (List.mem_append_right _ (List.mem_of_getElem? h)) g
theorem sw (i : Nat) {w : Cond} (h : (k2_sels lw_privs)[i]? = some w) (g : goodWord w = true) : w ∈ allw := allw_of (List.mem_append_left _ (List.mem_of_getElem? h)) g
theorem allw_good {w : Cond} (h : w ∈ allw) : goodWord w = true := (List.mem_filter.mp h).2
theorem gd_of {big : List Cond} (hb : ∀ w ∈ allw, w ∈ big) (ws : List Cond) (h : ∀ w ∈ ws, w ∈ allw) : GoodIn big ws := fun w hw => ⟨hb w (h w hw), good_of_word (allw_good (h w hw))⟩
/-- words that aren't good ones: links in the nest, casts -/
def nwk (w : Cond) : Bool := match w with | .fieldLinkNest .. => true | .methodLinkNest .. => true | .castable .. => true | .declares _ => true | _ => false
theorem nwk_warm {w : Cond} {s U : State} (hk : nwk w = true) (hW : s.WarmedH U.vm) (h : va_Nw w s) : va_Nw w U := by
  cases w with
  | fieldLinkNest a i b n d h' => exact va_Nw.warmF hW h
  | methodLinkNest a i x h' => exact va_Nw.warmM hW h
  | castable a b => exact va_Nw.warmC hW h
  | declares x => exact va_Nw.warmD hW h
  | _ => exact absurd hk (by simp [nwk])
theorem nwk_tab {w : Cond} (hk : nwk w = true) : w.onTables = true := by
  cases w with
  | fieldLinkNest a i b n d h' => rfl
  | methodLinkNest a i x h' => rfl
  | castable a b => rfl
  | declares x => rfl
  | _ => exact absurd hk (by simp [nwk])
/-- the words that aren't good, of the tables -/
def nwl : List Cond := tables_1.filter nwk
def exn (k : Nat) : String := match k with | 1 => "java/lang/IndexOutOfBoundsException" | 2 => "java/lang/IllegalArgumentException" | 3 => "java/lang/IllegalStateException" | 4 => "java/lang/UnsupportedOperationException" | 5 => "java/util/NoSuchElementException" | _ => "java/lang/ArithmeticException"
def strl : List (Nat × String) := [(46, "there were 8 tools"), (83, "not soft, toothed or too thin"), (96, "a saw, not soft, without teeth or upcut"), (123, "no saw, without teeth or cracked"), (137, "not soft or without teeth"), (174, "not warm, or straightened twice"), (189, "not soft, without teeth or too thin"), (200, "there are 6 orders"), (219, "not good, or the order is full"), (226, "no teeth"), (229, "no hard tools"), (271, "no such tool"), (274, "no such order"), (278, "no such tooth"), (281, "not hard"), (285, "no such shape"), (288, "no such cut"), (290, "no such bath"), (292, "a number is out of range")]
def ncl : List (Nat × Nat) := [(2, 1), (4, 1), (4, 2), (3, 2), (5, 1)]
def Zs (n0 : Nat) (U : State) (H : Heap) : Prop := vx_Zq Bundle.tN "UNASSIGNED_STACK" Bundle.steD (fun q => n0 ≤ q) U H ∧ vx_Zq Bundle.tN "SUPPRESSED_SENTINEL" Bundle.listD (fun q => n0 ≤ q) U H
/-- strl: the texts of the class by their entry; ncl: pairs that can't be cast -/
def Ns (U : State) : Prop := (∀ w ∈ nwl, va_Nw w U) ∧ (∀ q ∈ strl, ∃ a, vk_R RX3 q.1 q.2 a U) ∧ (∀ q ∈ ncl, va_Nc (exn q.1) (exn q.2) U) ∧ va_AO RX2 U ∧ va_AO RX0 U
theorem Ns.warm {s U : State} (hW : s.WarmedH U.vm) (h : Ns s) : Ns U :=
  ⟨fun w hw => nwk_warm (List.mem_filter.mp hw).2 hW (h.1 w hw), fun q hq => by obtain ⟨a, ha⟩ := h.2.1 q hq; exact ⟨a, vk_R.warm hW ha⟩, fun q hq => va_Nc.moved hW.alike (h.2.2.1 q hq), va_AO.moved hW.alike h.2.2.2.1, va_AO.moved hW.alike h.2.2.2.2⟩
theorem Ns.call {U : State} {g : JFrame} {mk : MethodId} {a : Array Value} (qN : Ns U) : Ns (U.calling g mk a) :=
  ⟨fun w hw => va_Nw.same (nwk_tab (List.mem_filter.mp hw).2) (u := U) (U := U.calling g mk a) rfl (qN.1 w hw), fun x hx => by obtain ⟨a1, ha⟩ := qN.2.1 x hx; exact ⟨a1, vk_R.same (u := U) (U := U.calling g mk a) rfl ha⟩, fun x hx => va_Nc.moved (u := U) (U := U.calling g mk a) (Vm.Alike.refl U.vm) (qN.2.2.1 x hx), va_AO.moved (u := U) (U := U.calling g mk a) (Vm.Alike.refl U.vm) qN.2.2.2.1, va_AO.moved (u := U) (U := U.calling g mk a) (Vm.Alike.refl U.vm) qN.2.2.2.2⟩
theorem Zs.warm {n0 : Nat} {s U : State} {H H1 : Heap} (hW : s.WarmedH U.vm) (h : Zs n0 s H) (hq : ∀ a : Nat, a < H.size → ¬ n0 ≤ a → H1[a]? = H[a]?) : Zs n0 U H1 :=
  ⟨(h.1.moved hW.alike).kept hq, (h.2.moved hW.alike).kept hq⟩
end
section
/-- the world at a method's start -/
def Pw (D : va_G) (cy : Nat → ClassId) (n0 : Nat) (ad : Nat → Nat → Nat) (nT nO : Nat) (σ : Sg) (U : State) : Prop :=
  n0 ≤ U.heap.size ∧ va_P D kcl (wd ad cy σ nT nO) U.heap ∧ va_D (fun q => n0 ≤ q) (wd ad cy σ nT nO) ∧ Iv nT nO σ ∧ va_K D kcl (tyl cy) U ∧ Zs n0 U U.heap ∧ Ns U
/-- .. and at its end, as far as it may have changed -/
def Pz (D : va_G) (cy : Nat → ClassId) (ad : Nat → Nat → Nat) (nT nO : Nat) (σ : Sg) (t : State) : Prop := va_P D kcl (wd ad cy σ nT nO) t.heap ∧ Iv nT nO σ
/-- .. and inside: at the heap H, from the method's start s -/
def Hp (D : va_G) (cy : Nat → ClassId) (n0 : Nat) (ad : Nat → Nat → Nat) (nT nO : Nat) (s : State) (σ : Sg) (H : Heap) (locs : List Loc) : Prop :=
  va_P D kcl (wd ad cy σ nT nO) H ∧ va_D (fun q => n0 ≤ q) (wd ad cy σ nT nO) ∧ va_S (fun q => n0 ≤ q) s.heap H locs ∧ Iv nT nO σ
/-- .. the counts left out -/
def Hq (D : va_G) (cy : Nat → ClassId) (n0 : Nat) (ad : Nat → Nat → Nat) (nT nO : Nat) (s : State) (σ : Sg) (H : Heap) (locs : List Loc) : Prop :=
  va_P D kcl (wd ad cy σ nT nO) H ∧ va_D (fun q => n0 ≤ q) (wd ad cy σ nT nO) ∧ va_S (fun q => n0 ≤ q) s.heap H locs ∧ Iv0 nT nO σ
/-- what stands through a whole method -/
def Cx (p : Program) (l : Launch) (s : State) (m : MethodId) (args : Array Value) (meth : Method) (c : Code) (cc : ByteArray) (nL : Nat) (own : String) (D : va_G) (cy : Nat → ClassId) (n0 : Nat) : Prop :=
  CallFix p m c cc nL s args allw own ∧ meth.locks = false ∧ va_K D kcl (tyl cy) s ∧ n0 ≤ s.heap.size ∧ Zs n0 s s.heap ∧ Ns s ∧ l.stackTraces = false
abbrev wm (y : MethodName) (cc : ByteArray) (n : Nat) (ret : Option FieldType) : List Cond := Cond.code y cc n ret :: allw
abbrev wh (y : MethodName) (cc : ByteArray) (n : Nat) (ret : Option FieldType) (hh : List (Nat × Nat × Nat × Nat)) : List Cond := Cond.codeWith y cc n ret hh :: allw
variable {ρ : Type}
/-- a return, as the answer r says -/
def Qn (D : va_G) (cy : Nat → ClassId) (n0 : Nat) (ad : Nat → Nat → Nat) (nT nO : Nat) (vv : ρ → Option Value) (r : ρ × Sg) : Array Value → State → Outcome → State → Prop := fun _ st oc t =>
  oc = .returned (vv r.1) ∧ Pz D cy ad nT nO r.2 t ∧ va_F (fun q => n0 ≤ q) st t
def Qx (D : va_G) (cy : Nat → ClassId) (n0 : Nat) (ad : Nat → Nat → Nat) (nT nO : Nat) (vv : ρ → Option Value) (r : (Nat ⊕ ρ) × Sg) : Array Value → State → Outcome → State → Prop := fun _ st oc t =>
  (∃ v, r.1 = .inr v ∧ oc = .returned (vv v)) ∧ Pz D cy ad nT nO r.2 t ∧ va_F (fun q => n0 ≤ q) st t
def XC (D : va_G) (cy : Nat → ClassId) (n0 : Nat) (ad : Nat → Nat → Nat) (nT nO : Nat) (r : (Nat ⊕ ρ) × Sg) : String → State → State → Prop := fun E st t =>
  (∃ k, r.1 = .inl k ∧ E = exn k) ∧ Pz D cy ad nT nO r.2 t ∧ va_F (fun q => n0 ≤ q) st t
/-- the contract of a method that only returns -/
def Ct (l : Launch) (y : MethodName) (ws : List Cond) (rm : Room) (mc ms : Nat) (vv : ρ → Option Value) (As : List Value) (D : va_G) (cy : Nat → ClassId) (n0 : Nat) (ad : Nat → Nat → Nat) (nT nO : Nat) (σ : Sg) (o : Option (ρ × Sg)) : Prop :=
  ∀ r, o = some r → Met l y ws rm (va_Pc As (Pw D cy n0 ad nT nO σ)) (Qn D cy n0 ad nT nO vv r) mc ms (fun q => n0 ≤ q)
/-- .. of one that returns or throws -/
def CtX (l : Launch) (y : MethodName) (ws : List Cond) (rm : Room) (mc ms : Nat) (vv : ρ → Option Value) (As : List Value) (D : va_G) (cy : Nat → ClassId) (n0 : Nat) (ad : Nat → Nat → Nat) (nT nO : Nat) (σ : Sg) (o : Option ((Nat ⊕ ρ) × Sg)) : Prop :=
  ∀ r, o = some r → vx_Met l y ws rm (va_Pc As (Pw D cy n0 ad nT nO σ)) (Qx D cy n0 ad nT nO vv r) (XC D cy n0 ad nT nO r) mc ms (fun q => n0 ≤ q)
/-- from here the method comes to what the answer o says of its end, where o is one -/
def Sm {β : Type} (Qf : β → State → Prop) (o : Option β) (p : Program) (l : Launch) (e : Env) (R : Room) (s : State) (m : MethodId) (args : Array Value) (below : List Frame) (meth : Method) (c : Code) (H : Heap) (locs : List Loc) (cells slots : Nat) (g : JFrame) : Prop :=
  ∀ r, o = some r → W p l e R s m args below meth c H locs cells slots (Qf r) g
theorem Pw_blind {D : va_G} {cy : Nat → ClassId} {n0 : Nat} {ad : Nat → Nat → Nat} {nT nO : Nat} {σ : Sg} {As : List Value} : FrameBlind (va_Pc As (Pw D cy n0 ad nT nO σ)) := by
  intro a U g mk q
  obtain ⟨q0, q1, qP, qD, qI, qK, qZ, qN⟩ := q
  exact ⟨q0, q1, qP, qD, qI, va_K.moved (u := U) (U := U.calling g mk a) (Vm.Alike.refl U.vm) qK, ⟨qZ.1.moved (u := U) (U := U.calling g mk a) (Vm.Alike.refl U.vm), qZ.2.moved (u := U) (U := U.calling g mk a) (Vm.Alike.refl U.vm)⟩,
    Ns.call qN⟩
section
variable {p : Program} {l : Launch} {e : Env} {R : Room} {s s₁ : State} {m : MethodId} {args : Array Value} {below : List Frame} {meth : Method} {c : Code} {cc : ByteArray} {nL : Nat} {own : String} {D : va_G} {cy : Nat → ClassId} {n0 : Nat} {ad : Nat → Nat → Nat} {nT nO : Nat} {σ : Sg} {H : Heap} {locs : List Loc} {cells slots pc : Nat} {ls : Array Slot} {rest : List Value}
/-- at the entry -/
theorem ent {y : MethodName} {hd : Cond} {rm : Room} {ret : Option FieldType} {As : List Value} (B : BodyLoose p l y (headSpec (hd :: allw) rm) cc nL ret e s m args below meth c s₁) (hml : c.maxLocals = nL) (hst : l.stackTraces = false) (hv : va_Pc As (Pw D cy n0 ad nT nO σ) args s) :
    Cx p l s m args meth c cc nL y.cls D cy n0 ∧ Hp D cy n0 ad nT nO s σ s.heap [] ∧ meth.sig.returnType = ret ∧ args = As.toArray := by
  obtain ⟨e1, q1, qP, qD, qI, qK, qZ, qN⟩ := hv
  have hts := atoms_spec (ws := hd :: allw) B.pre
  exact ⟨⟨⟨B.exec, B.bytes, hml, findClass_of_methodNamed B.named, fun w hw => hts w (List.mem_cons_of_mem _ hw)⟩, B.notSynchronized, qK, q1, qZ, qN, hst⟩, ⟨qP, qD, va_S.rf, qI⟩, B.returns, e1⟩
theorem Hp.pw (C0 : Cx p l s m args meth c cc nL own D cy n0) (hh : Hp D cy n0 ad nT nO s σ H locs) (U : State) (hU : U.heap = H) (hW : s.WarmedH U.vm) : Pw D cy n0 ad nT nO σ U := by
  obtain ⟨-, -, hK, hn, hZ, hN, -⟩ := C0
  obtain ⟨hP, hD, hS, hI⟩ := hh
  exact ⟨by rw [hU]; exact Nat.le_trans hn hS.1, by rw [hU]; exact hP, hD, hI, va_K.moved hW.alike hK, hZ.warm hW (fun a h1 h2 => by rw [hU]; exact hS.2.1 a h1 h2), hN.warm hW⟩
/-- behind a call -/
theorem Hp.back {σ1 : Sg} {st t T' : State} {L : List Loc} (hh : Hp D cy n0 ad nT nO s σ H locs) (h0 : st.heap = H) (e1 : T'.heap = t.heap) (hL : ∀ q ∈ L, n0 ≤ q.base) (hz : Pz D cy ad nT nO σ1 t) (hF : va_F (fun q => n0 ≤ q) st t) : Hp D cy n0 ad nT nO s σ1 T'.heap (locs ++ L) := by
  obtain ⟨hP, hD, hS, hI⟩ := hh
  obtain ⟨k1, k2, k3⟩ := vx_keep (A0 := fun q => n0 ≤ q) (A1 := fun q => n0 ≤ q) (free := fun q => n0 ≤ q) h0 e1 hS (fun _ _ h => h) (fun _ h => h) hL hF
  exact ⟨by rw [e1]; exact hz.1, wd_D hD, k3, hz.2⟩
variable {vv : ρ → Option Value} {y : MethodName} {bytes : ByteArray} {maxL mc ms n index : Nat} {ret : Option FieldType} {ws : List Cond} {rm : Room} {As st0 : List Value} {o : Option (ρ × Sg)} {ox : Option ((Nat ⊕ ρ) × Sg)} {β : Type} {Qf : β → State → Prop}
theorem run_k {k : ρ × Sg → Option β} (hh : Hp D cy n0 ad nT nO s σ H locs)
    (hr : ∀ r, o = some r → va_Run p l e R s m args below meth c H locs cells slots mc ms (F0 m pc ls st0) rest (Qn D cy n0 ad nT nO vv r As.toArray) (fun q => n0 ≤ q))
    (kk : ∀ (r : ρ × Sg) (H1 : Heap) (locs1 : List Loc), o = some r → Hp D cy n0 ad nT nO s r.2 H1 locs1 → Sm Qf (k r) p l e R s m args below meth c H1 locs1 (cells + mc) (slots + ms) (F0 m (pc + 3) ls ((vv r.1).toList ++ rest))) :
    Sm Qf (o.bind k) p l e R s m args below meth c H locs cells slots (F0 m pc ls st0) := by
  intro x hx
  cases ho : o with
  | none => rw [ho] at hx; cases hx
  | some r =>
    rw [ho] at hx
    intro T hT X
    obtain ⟨v, st₀, t, T', L, h0, X', hL, e1, e2, ⟨hv, hz, hF⟩, st⟩ := hr r ho T hT X
    cases hv
    obtain ⟨t2, a1, b1⟩ := kk r T'.heap (locs ++ L) ho (hh.back h0 e1 hL hz hF) x hx T' rfl X'
    exact ⟨t2, st t2 a1, b1⟩
/-- invokevirtual of a method that only returns -/
theorem s_V {k : ρ × Sg → Option β} {C : String} {kd i ci : Nat} {T : u_T} {N : Nat} {fs : List Value} (C0 : Cx p l s m args meth c cc nL own D cy n0) (hh : Hp D cy n0 ad nT nO s σ H locs) (hM : Ct l y ws rm mc ms vv (.ref (ad kd i) :: As) D cy n0 ad nT nO σ o)
    (cw : CallW R s args own C index y bytes maxL ret ws rm mc ms n) (hr : (kd, i) ∈ rl nT nO) (he : ce ad cy σ kd i = .inr (ci, fs)) (hc : kcl[ci]? = some (C, T, N)) (hn : As.length = n) (hsz : ls.size = nL) (hst : st0 = As.reverse ++ .ref (ad kd i) :: rest) (hW : 2 * (F0 m pc ls st0).monitorRoom + (rest.map fun v => v.category).sum ≤ 8)
    (hdg : decode cc pc = .ok (.invokevirtual index, 3)) (hf : cells + mc ≤ R.cells ∧ slots + ms ≤ R.slots)
    (kk : ∀ (r : ρ × Sg) (H1 : Heap) (locs1 : List Loc), o = some r → Hp D cy n0 ad nT nO s r.2 H1 locs1 → Sm Qf (k r) p l e R s m args below meth c H1 locs1 (cells + mc) (slots + ms) (F0 m (pc + 3) ls ((vv r.1).toList ++ rest))) :
    Sm Qf (o.bind k) p l e R s m args below meth c H locs cells slots (F0 m pc ls st0) := by
  refine run_k (As := .ref (ad kd i) :: As) hh (fun r ho => ?_) kk
  obtain ⟨q, hq, -⟩ := wd_get (ad := ad) (cy := cy) (σ := σ) hr
  rw [he] at hq
  exact va_runV (As := As) (rest := rest) C0.1 (hM r ho) cw ⟨Pw_blind, va_recv C0.2.2.1 hh.1 (q := (C, T, N)) hc hq, fun U hU hW => ⟨rfl, hh.pw C0 U hU hW⟩⟩ rfl hn hsz hst hW hdg hf
/-- invokestatic -/
theorem s_S {k : ρ × Sg → Option β} (C0 : Cx p l s m args meth c cc nL own D cy n0) (hh : Hp D cy n0 ad nT nO s σ H locs) (hM : Ct l y ws rm mc ms vv As D cy n0 ad nT nO σ o)
    (cw : CallB R s args own index y bytes maxL ret ws rm mc ms n ∧ (Cond.static y).before args s = true) (hn : As.length = n) (hsz : ls.size = nL) (hst : st0 = As.reverse ++ rest) (hW : 2 * (F0 m pc ls st0).monitorRoom + (rest.map fun v => v.category).sum ≤ 8)
    (hdg : decode cc pc = .ok (.invokestatic index, 3)) (hf : cells + mc ≤ R.cells ∧ slots + ms ≤ R.slots)
    (kk : ∀ (r : ρ × Sg) (H1 : Heap) (locs1 : List Loc), o = some r → Hp D cy n0 ad nT nO s r.2 H1 locs1 → Sm Qf (k r) p l e R s m args below meth c H1 locs1 (cells + mc) (slots + ms) (F0 m (pc + 3) ls ((vv r.1).toList ++ rest))) :
    Sm Qf (o.bind k) p l e R s m args below meth c H locs cells slots (F0 m pc ls st0) := by
  refine run_k (As := As) hh (fun r ho => ?_) kk
  exact va_runS (As := As) (rest := rest) C0.1 (hM r ho) cw ⟨Pw_blind, fun U hU hW => ⟨rfl, hh.pw C0 U hU hW⟩⟩ rfl hn hsz hst hW hdg hf
/-- invokestatic of a nest mate's -/
theorem s_SN {k : ρ × Sg → Option β} {host : String} (C0 : Cx p l s m args meth c cc nL own D cy n0) (hh : Hp D cy n0 ad nT nO s σ H locs) (hM : Ct l y ws rm mc ms vv As D cy n0 ad nT nO σ o)
    (cw : va_CN R s args own index y host bytes maxL ret ws rm mc ms n ∧ (Cond.static y).before args s = true ∧ True) (hn : As.length = n) (hsz : ls.size = nL) (hst : st0 = As.reverse ++ rest) (hW : 2 * (F0 m pc ls st0).monitorRoom + (rest.map fun v => v.category).sum ≤ 8)
    (hdg : decode cc pc = .ok (.invokestatic index, 3)) (hf : cells + mc ≤ R.cells ∧ slots + ms ≤ R.slots)
    (kk : ∀ (r : ρ × Sg) (H1 : Heap) (locs1 : List Loc), o = some r → Hp D cy n0 ad nT nO s r.2 H1 locs1 → Sm Qf (k r) p l e R s m args below meth c H1 locs1 (cells + mc) (slots + ms) (F0 m (pc + 3) ls ((vv r.1).toList ++ rest))) :
    Sm Qf (o.bind k) p l e R s m args below meth c H locs cells slots (F0 m pc ls st0) := by
  refine run_k (As := As) hh (fun r ho => ?_) kk
  exact va_runSN (As := As) (rest := rest) C0.1 (hM r ho) cw ⟨Pw_blind, fun U hU hW => ⟨rfl, hh.pw C0 U hU hW⟩⟩ rfl hn hsz hst hW hdg hf
/-- the answer of a call that may throw, looked at -/
def bx {β : Type} (x : Option ((Nat ⊕ ρ) × Sg)) (k : ρ × Sg → Option β) (h : Nat × Sg → Option β) : Option β := match x with
  | none => none
  | some (.inl k', τ) => h (k', τ)
  | some (.inr v, τ) => k (v, τ)
theorem run_x {k : ρ × Sg → Option β} {h : Nat × Sg → Option β} (hh : Hp D cy n0 ad nT nO s σ H locs)
    (hr : ∀ r, ox = some r → vx_Run p l e R s m args below meth c H locs cells slots mc ms (F0 m pc ls st0) rest (Qx D cy n0 ad nT nO vv r As.toArray) (XC D cy n0 ad nT nO r) (fun q => n0 ≤ q))
    (kx : ∀ (r : Nat × Sg) (x : β) (H1 : Heap) (locs1 : List Loc) (cel : Cell) (q9 : Addr), h r = some x → Hp D cy n0 ad nT nO s r.2 H1 locs1 → H1[q9]? = some cel → cel.vm = .none → s.vm.findClass (exn r.1) = some cel.cls → vx_W p l e R s m args below meth c H1 locs1 (cells + mc) (slots + ms) (Qf x) (F0 m pc ls rest) q9)
    (kk : ∀ (r : ρ × Sg) (H1 : Heap) (locs1 : List Loc), ox = some (.inr r.1, r.2) → Hp D cy n0 ad nT nO s r.2 H1 locs1 → Sm Qf (k r) p l e R s m args below meth c H1 locs1 (cells + mc) (slots + ms) (F0 m (pc + 3) ls ((vv r.1).toList ++ rest))) :
    Sm Qf (bx ox k h) p l e R s m args below meth c H locs cells slots (F0 m pc ls st0) := by
  intro x hx
  cases ho : ox with
  | none => rw [ho] at hx; cases hx
  | some r =>
    rw [ho] at hx
    intro T hT X
    rcases hr r ho T hT X with ⟨v, st₀, t, T', L, h0, X', hL, e1, e2, ⟨⟨v', hv', hv⟩, hz, hF⟩, st⟩ | ⟨q, st₀, t, T', L, E, cel, h0, X', hL, e1, e2, ⟨⟨k', hk', hE⟩, hz, hF⟩, hce, hcv, hcl, st⟩
    · cases hv
      obtain ⟨r1, r2⟩ := r
      cases hv'
      obtain ⟨t2, a1, b1⟩ := kk (v', r2) T'.heap (locs ++ L) ho (hh.back h0 e1 hL hz hF) x hx T' rfl X'
      exact ⟨t2, st t2 a1, b1⟩
    · obtain ⟨r1, r2⟩ := r
      cases hk'
      subst hE
      obtain ⟨t2, a1, b1⟩ := kx (k', r2) x T'.heap (locs ++ L) cel q hx (hh.back h0 e1 hL hz hF) (by rw [e1]; exact hce) hcv hcl T' rfl X'
      exact ⟨t2, st.trans a1, b1⟩
end
end
