section
/-! the law's helpers: they call the class and catch what it throws -/
def QnB (D : va_G) (cy : Nat → ClassId) (n0 : Nat) (ad : Nat → Nat → Nat) (r : Int32 × Sg) : Array Value → State → Outcome → State → Prop := fun _ st oc t =>
  oc = .returned (some (.int r.1)) ∧ (∃ (ad' : Nat → Nat → Nat) (nT' nO' : Nat), AdX ad ad' ∧ Pz D cy ad' nT' nO' r.2 t ∧ va_D (fun q => n0 ≤ q) (wd ad' cy r.2 nT' nO')) ∧ va_F (fun q => n0 ≤ q) st t
def nvr : String → State → State → Prop := fun _ _ _ => False
abbrev QH (below : List Frame) (args : Array Value) (s : State) (D : va_G) (cy : Nat → ClassId) (n0 : Nat) (ad : Nat → Nat → Nat) (mc ms : Nat) : Int32 × Sg → State → Prop := fun r => vx_MQ below (QnB D cy n0 ad r) nvr args s mc ms (fun q => n0 ≤ q)
def CtH (l : Launch) (y : MethodName) (ws : List Cond) (rm : Room) (mc ms : Nat) (As : List Value) (D : va_G) (cy : Nat → ClassId) (n0 : Nat) (ad : Nat → Nat → Nat) (nT nO : Nat) (σ : Sg) (o : Option (Int32 × Sg)) : Prop :=
  ∀ r, o = some r → vx_Met l y ws rm (va_Pc As (Pw D cy n0 ad nT nO σ)) (QnB D cy n0 ad r) nvr mc ms (fun q => n0 ≤ q)
variable {p : Program} {l : Launch} {e : Env} {R : Room} {s : State} {m : MethodId} {args : Array Value} {below : List Frame} {meth : Method} {c : Code} {cc : ByteArray} {nL : Nat} {own : String} {D : va_G} {cy : Nat → ClassId} {n0 : Nat} {ad ad' : Nat → Nat → Nat} {nT nO dT dO : Nat} {σ : Sg} {H : Heap} {locs : List Loc} {cells slots pc mc ms : Nat} {ls : Array Slot} {rest : List Value} {β : Type} {Qf : β → State → Prop} {Q : State → Prop}
theorem s_fr {o : Option β} {g g' : JFrame} (h : g = g') (k : Sm Qf o p l e R s m args below meth c H locs cells slots g') : Sm Qf o p l e R s m args below meth c H locs cells slots g := h ▸ k
theorem AdX.rf : AdX ad ad := fun _ _ => rfl
theorem h_ret (C0 : Cx p l s m args meth c cc nL own D cy n0) (hx : AdX ad ad') (hh : Hp D cy n0 ad' nT nO s σ H locs) {v : Int32} (hr : meth.sig.returnType = some .int) (hc : cells ≤ mc) (hs : slots ≤ ms) (hdg : decode cc pc = .ok (.ireturn, 1)) :
    W p l e R s m args below meth c H locs cells slots (QH below args s D cy n0 ad mc ms (v, σ)) (F0 m pc ls [.int v]) := by
  refine W.widen hc hs ?_
  exact vx_ret (W.zret C0.1.1 C0.1.2.1 hr rfl (fun t ht hW => ⟨rfl, ⟨ad', nT, nO, hx, ⟨by rw [ht]; exact hh.1, hh.2.2.2⟩, hh.2.1⟩, hh.2.2.1.F ht⟩) hh.2.2.1.2.2 hdg C0.2.1)
theorem h_catch {k : Nat} {cel : Cell} {q9 : Addr} (C0 : Cx p l s m args meth c cc nL own D cy n0) (pre : List ExceptionTableEntry) (x : ExceptionTableEntry) (suf : List ExceptionTableEntry) (hsplit : c.exceptionTable.toList = pre ++ x :: suf)
    (hpass : ∀ z ∈ pre, ∃ k', z.catchType ≠ 0 ∧ Cond.classLink own z.catchType (exn k') ∈ allw ∧ (k, k') ∈ ncl) (hx : covers x pc = true) (h0 : x.catchType ≠ 0) (hl : Cond.classLink own x.catchType (exn k) ∈ allw) (hcast : Cond.castable (exn k) (exn k) ∈ nwl) (hce : H[q9]? = some cel) (hcv : cel.vm = .none) (hcl : s.vm.findClass (exn k) = some cel.cls)
    (kk : W p l e R s m args below meth c H locs cells slots Q (F0 m x.handlerPc ls [.ref q9])) : vx_W p l e R s m args below meth c H locs cells slots Q (F0 m pc ls rest) q9 :=
  vx_catch C0.1.2.2.2.1 pre x suf hsplit (fun z hz => by obtain ⟨k', a1, a2, a3⟩ := hpass z hz; exact Or.inr ⟨a1, exn k', C0.1.2.2.2.2 _ a2, C0.2.2.2.2.2.1.2.2.1 _ a3⟩) hx h0 (C0.1.2.2.2.2 _ hl) (va_Nw.use (nwk_tab (List.mem_filter.mp hcast).2) (C0.2.2.2.2.2.1.1 _ hcast)) hce hcv hcl kk
variable {y : MethodName} {bytes : ByteArray} {maxL kc ks n index : Nat} {ret : Option FieldType} {ws : List Cond} {rm : Room} {As st0 : List Value}
theorem run_xB {ox : Option ((Nat ⊕ Int32) × Sg)} {k : Int32 × Sg → Option β} {h : Nat × Sg → Option β} (hh : Hp D cy n0 ad nT nO s σ H locs)
    (hr : ∀ r, ox = some r → vx_Run p l e R s m args below meth c H locs cells slots mc ms (F0 m pc ls st0) rest (QxB D cy n0 ad nT nO dT dO r As.toArray) (XC D cy n0 ad nT nO r) (fun q => n0 ≤ q))
    (kx : ∀ (r : Nat × Sg) (x : β) (H1 : Heap) (locs1 : List Loc) (cel : Cell) (q9 : Addr), h r = some x → Hp D cy n0 ad nT nO s r.2 H1 locs1 → H1[q9]? = some cel → cel.vm = .none → s.vm.findClass (exn r.1) = some cel.cls → vx_W p l e R s m args below meth c H1 locs1 (cells + mc) (slots + ms) (Qf x) (F0 m pc ls rest) q9)
    (kk : ∀ (r : Int32 × Sg) (H1 : Heap) (locs1 : List Loc) (ad' : Nat → Nat → Nat), AdX ad ad' → Hp D cy n0 ad' (nT + dT) (nO + dO) s r.2 H1 locs1 → Sm Qf (k r) p l e R s m args below meth c H1 locs1 (cells + mc) (slots + ms) (F0 m (pc + 3) ls (.int r.1 :: rest))) :
    Sm Qf (bx ox k h) p l e R s m args below meth c H locs cells slots (F0 m pc ls st0) := by
  intro x hx
  cases ho : ox with
  | none => rw [ho] at hx; cases hx
  | some r =>
    rw [ho] at hx
    intro T hT X
    rcases hr r ho T hT X with ⟨v, st₀, t, T', L, h0, X', hL, e1, e2, ⟨⟨v', hv', hv⟩, ⟨ad', hax, hz, hDz⟩, hF⟩, st⟩ | ⟨q, st₀, t, T', L, E, cel, h0, X', hL, e1, e2, ⟨⟨k', hk', hE⟩, hz, hF⟩, hce, hcv, hcl, st⟩
    · cases hv
      obtain ⟨r1, r2⟩ := r
      cases hv'
      obtain ⟨k1, k2, k3⟩ := vx_keep (A0 := fun q => n0 ≤ q) (A1 := fun q => n0 ≤ q) (free := fun q => n0 ≤ q) h0 e1 hh.2.2.1 (fun _ _ h => h) (fun _ h => h) hL hF
      obtain ⟨t2, a1, b1⟩ := kk (v', r2) T'.heap (locs ++ L) ad' hax ⟨by rw [e1]; exact hz.1, hDz, k3, hz.2⟩ x hx T' rfl X'
      exact ⟨t2, st t2 a1, b1⟩
    · obtain ⟨r1, r2⟩ := r
      cases hk'
      subst hE
      obtain ⟨t2, a1, b1⟩ := kx (k', r2) x T'.heap (locs ++ L) cel q hx (hh.back h0 e1 hL hz hF) (by rw [e1]; exact hce) hcv hcl T' rfl X'
      exact ⟨t2, st.trans a1, b1⟩
/-! the law: its own world, the addresses held by its locals -/
def LW (D : va_G) (cy : Nat → ClassId) (n0 : Nat) (s : State) (y0 y7 y12 y13 : Nat) (σ : Sg) (H : Heap) (locs : List Loc) : Prop :=
  ∃ (ad : Nat → Nat → Nat) (nT nO : Nat), (ad 0 0 = y0 ∧ ad 7 0 = y7 ∧ ad 12 0 = y12 ∧ ad 13 0 = y13) ∧ Hp D cy n0 ad nT nO s σ H locs
variable {y0 y7 y12 y13 : Nat}
theorem LW.S (hw : LW D cy n0 s y0 y7 y12 y13 σ H locs) : va_S (fun q => n0 ≤ q) s.heap H locs := by
  obtain ⟨ad, nT, nO, -, hh⟩ := hw
  exact hh.2.2.1
/-- a helper called -/
theorem l_H {o : Option (Int32 × Sg)} {k : Int32 × Sg → Option β} {hhd : List (Nat × Nat × Nat × Nat)} {As : (Nat → Nat → Nat) → List Value} (C0 : Cx p l s m args meth c cc nL own D cy n0) (hw : LW D cy n0 s y0 y7 y12 y13 σ H locs) (hM : ∀ (ad : Nat → Nat → Nat) (nT nO : Nat), CtH l y ws rm kc ks (As ad) D cy n0 ad nT nO σ o)
    (cw : vx_CSW R s args own index y bytes maxL ret hhd ws rm kc ks n) (hn : ∀ ad, (As ad).length = n) (hsz : ls.size = nL) (hst : ∀ ad : Nat → Nat → Nat, ad 0 0 = y0 → ad 12 0 = y12 → ad 13 0 = y13 → st0 = (As ad).reverse ++ rest) (hW : 2 * (F0 m pc ls st0).monitorRoom + (rest.map fun v => v.category).sum ≤ 8)
    (hdg : decode cc pc = .ok (.invokestatic index, 3)) (hf : cells + kc ≤ R.cells ∧ slots + ks ≤ R.slots)
    (kk : ∀ (r : Int32 × Sg) (H1 : Heap) (locs1 : List Loc), o = some r → LW D cy n0 s y0 y7 y12 y13 r.2 H1 locs1 → Sm Qf (k r) p l e R s m args below meth c H1 locs1 (cells + kc) (slots + ks) (F0 m (pc + 3) ls (.int r.1 :: rest))) :
    Sm Qf (o.bind k) p l e R s m args below meth c H locs cells slots (F0 m pc ls st0) := by
  obtain ⟨ad, nT, nO, ⟨e0, e7, e12, e13⟩, hh⟩ := hw
  intro x hx
  cases ho : o with
  | none => rw [ho] at hx; cases hx
  | some r =>
    rw [ho] at hx
    intro T hT X
    rcases vx_runSX (As := As ad) (rest := rest) C0.1 (hM ad nT nO r ho) cw ⟨Pw_blind, fun U hU hW => ⟨rfl, hh.pw C0 U hU hW⟩⟩ rfl (hn ad) hsz (hst ad e0 e12 e13) hW hdg hf T hT X with ⟨v, st₀, t, T', L, h0, X', hL, e1, e2, ⟨hv, ⟨ad', nT', nO', hax, hz, hDz⟩, hF⟩, st⟩ | ⟨q, st₀, t, T', L, E, cel, h0, X', hL, e1, e2, hbad, -⟩
    · cases hv
      obtain ⟨k1, k2, k3⟩ := vx_keep (A0 := fun q => n0 ≤ q) (A1 := fun q => n0 ≤ q) (free := fun q => n0 ≤ q) h0 e1 hh.2.2.1 (fun _ _ h => h) (fun _ h => h) hL hF
      obtain ⟨t2, a1, b1⟩ := kk r T'.heap (locs ++ L) ho ⟨ad', nT', nO', ⟨(hax 0 (by omega)).trans e0, (hax 7 (by omega)).trans e7, (hax 12 (by omega)).trans e12, (hax 13 (by omega)).trans e13⟩, ⟨by rw [e1]; exact hz.1, hDz, k3, hz.2⟩⟩ x hx T' rfl X'
      exact ⟨t2, st t2 a1, b1⟩
    · exact hbad.elim
/-- a method of the class or of the reference called, that only returns -/
theorem l_V {ρ : Type} {vv : ρ → Option Value} {o : Option (ρ × Sg)} {k : ρ × Sg → Option β} {C : String} {kd ci : Nat} {T9 : u_T} {N9 yk : Nat} (C0 : Cx p l s m args meth c cc nL own D cy n0) (hw : LW D cy n0 s y0 y7 y12 y13 σ H locs) (hk : (kd = 0 ∧ ci = 3 ∧ yk = y0) ∨ (kd = 7 ∧ ci = 4 ∧ yk = y7)) (hc : kcl[ci]? = some (C, T9, N9)) (hM : ∀ (ad : Nat → Nat → Nat) (nT nO : Nat), Ct l y ws rm kc ks vv (.ref (ad kd 0) :: As) D cy n0 ad nT nO σ o)
    (cw : CallW R s args own C index y bytes maxL ret ws rm kc ks n) (hn : As.length = n) (hsz : ls.size = nL) (hst : st0 = As.reverse ++ .ref yk :: rest) (hW : 2 * (F0 m pc ls st0).monitorRoom + (rest.map fun v => v.category).sum ≤ 8)
    (hdg : decode cc pc = .ok (.invokevirtual index, 3)) (hf : cells + kc ≤ R.cells ∧ slots + ks ≤ R.slots)
    (kk : ∀ (r : ρ × Sg) (H1 : Heap) (locs1 : List Loc), o = some r → LW D cy n0 s y0 y7 y12 y13 r.2 H1 locs1 → Sm Qf (k r) p l e R s m args below meth c H1 locs1 (cells + kc) (slots + ks) (F0 m (pc + 3) ls ((vv r.1).toList ++ rest))) :
    Sm Qf (o.bind k) p l e R s m args below meth c H locs cells slots (F0 m pc ls st0) := by
  obtain ⟨ad, nT, nO, he, hh⟩ := hw
  have hy : yk = ad kd 0 := by
    rcases hk with ⟨rfl, -, rfl⟩ | ⟨rfl, -, rfl⟩
    · exact he.1.symm
    · exact he.2.1.symm
  have hfs : ∃ fs, ce ad cy σ kd 0 = .inr (ci, fs) := by
    rcases hk with ⟨rfl, rfl, -⟩ | ⟨rfl, rfl, -⟩
    · exact ⟨_, rfl⟩
    · exact ⟨_, rfl⟩
  obtain ⟨fs, hfs⟩ := hfs
  have hr : (kd, 0) ∈ rl nT nO := by
    rcases hk with ⟨rfl, -, -⟩ | ⟨rfl, -, -⟩
    · exact rl_b (by decide)
    · exact rl_b (by decide)
  refine s_V (fs := fs) C0 hh (hM ad nT nO) cw hr hfs hc hn hsz (by rw [← hy]; exact hst) hW hdg hf (fun r H1 locs1 ho hh1 => kk r H1 locs1 ho ⟨ad, nT, nO, he, hh1⟩)
theorem l_lald {o : Option β} (C0 : Cx p l s m args meth c cc nL own D cy n0) (hw : LW D cy n0 s y0 y7 y12 y13 σ H locs) (hdg : decode cc pc = .ok (.laload, 1)) (k : Sm Qf o p l e R s m args below meth c H locs cells slots (F0 m (pc + 1) ls (.long σ.2.2.1 :: rest))) : Sm Qf o p l e R s m args below meth c H locs cells slots (F0 m pc ls (.int 0 :: .ref y12 :: rest)) := by
  obtain ⟨ad, nT, nO, ⟨e0, e7, rfl, e13⟩, hh⟩ := hw
  exact s_lald C0 hh hdg k
theorem l_dald {o : Option β} (C0 : Cx p l s m args meth c cc nL own D cy n0) (hw : LW D cy n0 s y0 y7 y12 y13 σ H locs) (hdg : decode cc pc = .ok (.daload, 1)) (k : Sm Qf o p l e R s m args below meth c H locs cells slots (F0 m (pc + 1) ls (.double σ.2.2.2 :: rest))) : Sm Qf o p l e R s m args below meth c H locs cells slots (F0 m pc ls (.int 0 :: .ref y13 :: rest)) := by
  obtain ⟨ad, nT, nO, ⟨e0, e7, e12, rfl⟩, hh⟩ := hw
  exact s_dald C0 hh hdg k
theorem l_sld {o : Option β} {b N : Nat} {xs : Nat → Int32} {i : Int32} (C0 : Cx p l s m args meth c cc nL own D cy n0) (hX : va_X b N xs s s.heap) (hbl : b < s.heap.size) (hbn : ¬ n0 ≤ b) (hw : LW D cy n0 s y0 y7 y12 y13 σ H locs) (hdg : decode cc pc = .ok (.iaload, 1)) (k : Sm Qf o p l e R s m args below meth c H locs cells slots (F0 m (pc + 1) ls (.int (xs i.toNatClampNeg) :: rest))) : Sm Qf (if i < 0 ∨ N ≤ i.toNatClampNeg then none else o) p l e R s m args below meth c H locs cells slots (F0 m pc ls (.int i :: .ref b :: rest)) := by
  intro r h
  by_cases hj : i < 0 ∨ N ≤ i.toNatClampNeg
  · rw [if_pos hj] at h; cases h
  · rw [if_neg hj] at h
    exact va_sld C0.1.1 C0.1.2.1 hX hbl hbn hw.S hj hdg (k r h)
theorem l_slen {o : Option β} {b N : Nat} {xs : Nat → Int32} (C0 : Cx p l s m args meth c cc nL own D cy n0) (hX : va_X b N xs s s.heap) (hbl : b < s.heap.size) (hbn : ¬ n0 ≤ b) (hw : LW D cy n0 s y0 y7 y12 y13 σ H locs) (hdg : decode cc pc = .ok (.arraylength, 1)) (k : Sm Qf o p l e R s m args below meth c H locs cells slots (F0 m (pc + 1) ls (.int (Int32.ofNat N) :: rest))) : Sm Qf o p l e R s m args below meth c H locs cells slots (F0 m pc ls (.ref b :: rest)) :=
  fun r h => va_slen C0.1.1 C0.1.2.1 hX hbl hbn hw.S hdg (k r h)
theorem s_aload_r {o : Option β} {i x : Nat} (C0 : Cx p l s m args meth c cc nL own D cy n0) (hdg : decode cc pc = .ok (.aload i, 2)) (hl : ls[i]? = some (.val (.ref x))) (k : Sm Qf o p l e R s m args below meth c H locs cells slots (F0 m (pc + 2) ls (.ref x :: rest))) : Sm Qf o p l e R s m args below meth c H locs cells slots (F0 m pc ls rest) := fun r h => lv_aload C0.1.1 C0.1.2.1 hdg hl (k r h)
end
