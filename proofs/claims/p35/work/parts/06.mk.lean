section
/-! what makes things: a world of any cells W with a list L behind them -/
def HL (D : va_G) (n0 : Nat) (s : State) (ws : va_W) (H : Heap) (locs : List Loc) : Prop := va_P D kcl ws H ∧ va_D (fun q => n0 ≤ q) ws ∧ va_S (fun q => n0 ≤ q) s.heap H locs
def PwL (D : va_G) (cy : Nat → ClassId) (n0 : Nat) (ws : va_W) (U : State) : Prop := n0 ≤ U.heap.size ∧ va_P D kcl ws U.heap ∧ va_D (fun q => n0 ≤ q) ws ∧ va_K D kcl (tyl cy) U ∧ Zs n0 U U.heap ∧ Ns U
def QL (D : va_G) (n0 : Nat) (Post : va_W → Prop) (B0 : va_W) : Array Value → State → Outcome → State → Prop := fun _ st oc t => oc = .returned none ∧ (∃ L', Post L' ∧ va_P D kcl (B0 ++ L') t.heap ∧ va_D (fun q => n0 ≤ q) (B0 ++ L')) ∧ va_F (fun q => n0 ≤ q) st t
def CtL (l : Launch) (y : MethodName) (ws : List Cond) (rm : Room) (mc ms : Nat) (As : List Value) (D : va_G) (cy : Nat → ClassId) (n0 : Nat) (B0 L : va_W) (Post : va_W → Prop) : Prop :=
  Met l y ws rm (va_Pc As (PwL D cy n0 (B0 ++ L))) (QL D n0 Post B0) mc ms (fun q => n0 ≤ q)
theorem ap_get {α : Type} (B0 L : List α) (k : Nat) : (B0 ++ L)[B0.length + k]? = L[k]? := by rw [List.getElem?_append_right (Nat.le_add_right _ _), Nat.add_sub_cancel_left]
theorem ap_set {α : Type} (B0 L : List α) (k : Nat) (x : α) : (B0 ++ L).set (B0.length + k) x = B0 ++ L.set k x := by rw [List.set_append_right _ _ (Nat.le_add_right _ _), Nat.add_sub_cancel_left]
theorem K_eq {D : va_G} {cy : Nat → ClassId} {s : State} {cA : ClassId} {ty : FieldType} {t : Nat} (hK : va_K D kcl (tyl cy) s) (h : va_K D kcl (tyl cy ++ [(cA, ty)]) s) (ht : (tyl cy)[t]? = some (cy t, ty)) : cA = cy t := by
  have h1 := (h.2 7 (cA, ty) rfl).2
  have h2 := (hK.2 t (cy t, ty) ht).2
  cases ty with
  | object C =>
    obtain ⟨k1, c1, a1, a2, a3, a4⟩ := h1
    obtain ⟨k2, c2, b1, b2, b3, b4⟩ := h2
    exact Option.some.inj (a4.symm.trans b4)
  | _ => exact Option.some.inj (Eq.trans (Eq.symm h1) h2)
theorem PwL_blind {D : va_G} {cy : Nat → ClassId} {n0 : Nat} {ws : va_W} {As : List Value} : FrameBlind (va_Pc As (PwL D cy n0 ws)) := by
  intro a U g mk q
  obtain ⟨q0, q1, qP, qD, qK, qZ, qN⟩ := q
  exact ⟨q0, q1, qP, qD, va_K.moved (u := U) (U := U.calling g mk a) (Vm.Alike.refl U.vm) qK, ⟨qZ.1.moved (u := U) (U := U.calling g mk a) (Vm.Alike.refl U.vm), qZ.2.moved (u := U) (U := U.calling g mk a) (Vm.Alike.refl U.vm)⟩,
    Ns.call qN⟩
variable {p : Program} {l : Launch} {e : Env} {R : Room} {s s₁ : State} {m : MethodId} {args : Array Value} {below : List Frame} {meth : Method} {c : Code} {cc : ByteArray} {nL : Nat} {own : String} {D : va_G} {cy : Nat → ClassId} {n0 : Nat} {B0 L : va_W} {H : Heap} {locs : List Loc} {cells slots pc : Nat} {ls : Array Slot} {rest : List Value} {Q : State → Prop}
theorem entL {y : MethodName} {hd : Cond} {rm : Room} {ret : Option FieldType} {As : List Value} {ws : va_W} (B : BodyLoose p l y (headSpec (hd :: allw) rm) cc nL ret e s m args below meth c s₁) (hml : c.maxLocals = nL) (hst : l.stackTraces = false) (hv : va_Pc As (PwL D cy n0 ws) args s) :
    Cx p l s m args meth c cc nL y.cls D cy n0 ∧ HL D n0 s ws s.heap [] ∧ meth.sig.returnType = ret ∧ args = As.toArray := by
  obtain ⟨e1, q1, qP, qD, qK, qZ, qN⟩ := hv
  have hts := atoms_spec (ws := hd :: allw) B.pre
  exact ⟨⟨⟨B.exec, B.bytes, hml, findClass_of_methodNamed B.named, fun w hw => hts w (List.mem_cons_of_mem _ hw)⟩, B.notSynchronized, qK, q1, qZ, qN, hst⟩, ⟨qP, qD, va_S.rf⟩, B.returns, e1⟩
theorem n_obj {idx a : Nat} (C0 : Cx p l s m args meth c cc nL own D cy n0) (w1 : Cond.methodLink own idx Lib.objectInit ∈ allw) (w2 : Cond.instanceMethod Lib.objectInit ∈ allw) (w3 : Cond.code Lib.objectInit ⟨#[0xb1]⟩ 1 none ∈ allw) (hsz : ls.size = nL) (hdg : decode cc pc = .ok (.invokespecial idx, 3)) (hf : 1 ≤ R.frames) (hl : 2 * (F0 m pc ls (.ref a :: rest)).monitorRoom + (rest.map fun v => v.category).sum + 12 ≤ R.locals)
    (k : W p l e R s m args below meth c H locs cells slots Q (F0 m (pc + 3) ls rest)) : W p l e R s m args below meth c H locs cells slots Q (F0 m pc ls (.ref a :: rest)) :=
  W.objInit C0.1.1 C0.1.2.1 C0.1.2.2.2.1 (C0.1.2.2.2.2 _ w1) (C0.1.2.2.2.2 _ w2) (C0.1.2.2.2.2 _ w3) rfl (hsz.trans C0.1.2.2.1.symm) rfl hdg hf hl k
theorem n_put {a ci pos index N k : Nat} {Cn : String} {T : u_T} {fs : List Value} {v : Value} {ty : FieldType} (C0 : Cx p l s m args meth c cc nL own D cy n0) (hh : HL D n0 s (B0 ++ L) H locs) (he : L[k]? = some (a, .inr (ci, fs))) (hc : kcl[ci]? = some (Cn, T, N)) (hin : ∀ w ∈ u_ws Cn T N, w ∈ allw) (ty0 : Nat → FieldType) (hty : ∀ k, k < N → parseFieldDescriptor (T k).2.2.1 = some (ty0 k)) (hnm : ∀ a, a < N → ∀ b, b < N → a ≠ b → (T a).2.1 ≠ (T b).2.1) (hk : pos < N) (hw : Cond.fieldLink own index (T pos).1 (T pos).2.1 (T pos).2.2.1 ∈ allw) (hfin : (T pos).2.2.2 = false) (hd : parseFieldDescriptor (T pos).2.2.1 = some ty) (hn : narrow ty v = v) (hfit : fits ty v = true) (hl : pos < fs.length) (hdg : decode cc pc = .ok (.putfield index, 3))
    (kk : ∀ (H1 : Heap) (locs1 : List Loc), HL D n0 s (B0 ++ L.set k (a, .inr (ci, fs.set pos v))) H1 locs1 → W p l e R s m args below meth c H1 locs1 cells slots Q (F0 m (pc + 3) ls rest)) : W p l e R s m args below meth c H locs cells slots Q (F0 m pc ls (v :: .ref a :: rest)) := by
  refine va_put C0.1.1 C0.1.2.1 C0.1.2.2.2.2 hin ty0 hty hnm C0.1.2.2.2.1 C0.2.2.1 hh.1 hh.2.1 hh.2.2 (B0.length + k) ((ap_get B0 L k).trans he) hc pos hk (C0.1.2.2.2.2 _ hw) (fun _ h9 => h9) hfin hd hn hfit hl hdg (fun H1 locs1 hP hD hS => ?_)
  rw [ap_set] at hP hD
  exact kk H1 locs1 ⟨hP, hD, hS⟩
theorem n_putF {a ci pos index N k : Nat} {Cn : String} {T : u_T} {fs : List Value} {v : Value} {ty : FieldType} (C0 : Cx p l s m args meth c cc nL own D cy n0) (hi : meth.name = "<init>") (hh : HL D n0 s (B0 ++ L) H locs) (he : L[k]? = some (a, .inr (ci, fs))) (hc : kcl[ci]? = some (Cn, T, N)) (hin : ∀ w ∈ u_ws Cn T N, w ∈ allw) (ty0 : Nat → FieldType) (hty : ∀ k, k < N → parseFieldDescriptor (T k).2.2.1 = some (ty0 k)) (hnm : ∀ a, a < N → ∀ b, b < N → a ≠ b → (T a).2.1 ≠ (T b).2.1) (hk : pos < N) (hw : Cond.fieldLink own index (T pos).1 (T pos).2.1 (T pos).2.2.1 ∈ allw) (hfin : (T pos).2.2.2 = true) (hdecl : (T pos).1 = own) (hd : parseFieldDescriptor (T pos).2.2.1 = some ty) (hn : narrow ty v = v) (hfit : fits ty v = true) (hl : pos < fs.length) (hdg : decode cc pc = .ok (.putfield index, 3))
    (kk : ∀ (H1 : Heap) (locs1 : List Loc), HL D n0 s (B0 ++ L.set k (a, .inr (ci, fs.set pos v))) H1 locs1 → W p l e R s m args below meth c H1 locs1 cells slots Q (F0 m (pc + 3) ls rest)) : W p l e R s m args below meth c H locs cells slots Q (F0 m pc ls (v :: .ref a :: rest)) := by
  refine va_putF C0.1.1 C0.1.2.1 C0.1.2.2.2.2 hin ty0 hty hnm C0.1.2.2.2.1 C0.2.2.1 hh.1 hh.2.1 hh.2.2 (B0.length + k) ((ap_get B0 L k).trans he) hc pos hk (C0.1.2.2.2.2 _ hw) (fun _ h9 => h9) hfin hi hdecl hd hn hfit hl hdg (fun H1 locs1 hP hD hS => ?_)
  rw [ap_set] at hP hD
  exact kk H1 locs1 ⟨hP, hD, hS⟩
theorem n_newa {atype : ArrayType} {ty : FieldType} {n : Int32} {N t : Nat} {a0 : vp_A} (C0 : Cx p l s m args meth c cc nL own D cy n0) (hh : HL D n0 s (B0 ++ L) H locs) (hw : Cond.arrayClass (newarray.typeOf atype) ∈ allw) (hty : newarray.typeOf atype = ty) (ht : (tyl cy)[t]? = some (cy t, ty)) (ha : ∀ cA : ClassId, vp_cell cA a0 = arrV cA N (fun _ => defaultValue ty)) (hn : ¬ n < 0) (hN : n.toNatClampNeg = N) (hb : N * componentBytes ty ≤ 536870912) (hc : cells + 1 ≤ R.cells) (hs : slots + N ≤ R.slots) (hdg : decode cc pc = .ok (.newarray atype, 2))
    (kk : ∀ (q : Nat) (H1 : Heap), HL D n0 s (B0 ++ (L ++ [(q, .inl (cy t, a0))])) H1 locs → W p l e R s m args below meth c H1 locs (cells + 1) (slots + N) Q (F0 m (pc + 2) ls (.ref q :: rest))) : W p l e R s m args below meth c H locs cells slots Q (F0 m pc ls (.int n :: rest)) := by
  refine va_newa C0.1.1 C0.1.2.1 (C0.1.2.2.2.2 _ hw) hty C0.2.2.1 hh.1 hh.2.1 hh.2.2 (fun q h => Nat.le_trans C0.2.2.2.1 h) ha hn hN hb hc hs hdg (fun q cA H1 hK hP hD hS => ?_)
  cases K_eq C0.2.2.1 hK ht
  rw [List.append_assoc] at hP hD
  exact kk q H1 ⟨hP, hD, hS⟩
theorem n_newq {C : String} {index : Nat} {n : Int32} {N t : Nat} (C0 : Cx p l s m args meth c cc nL own D cy n0) (hh : HL D n0 s (B0 ++ L) H locs) (hw : Cond.classLink own index C ∈ allw) (hA : va_AO C s) (ht : (tyl cy)[t]? = some (cy t, .object C)) (hn : ¬ n < 0) (hN : n.toNatClampNeg = N) (hb : N * 4 ≤ 536870912) (hc : cells + 1 ≤ R.cells) (hs : slots + N ≤ R.slots) (hdg : decode cc pc = .ok (.anewarray index, 3))
    (kk : ∀ (q : Nat) (H1 : Heap), HL D n0 s (B0 ++ (L ++ [(q, .inl (cy t, N, .inr (.inr (.inr (.inr (fun _ => none))))))])) H1 locs → W p l e R s m args below meth c H1 locs (cells + 1) (slots + N) Q (F0 m (pc + 3) ls (.ref q :: rest))) : W p l e R s m args below meth c H locs cells slots Q (F0 m pc ls (.int n :: rest)) := by
  refine va_newq C0.1.1 C0.1.2.1 C0.1.2.2.2.1 (C0.1.2.2.2.2 _ hw) hA C0.2.2.1 hh.1 hh.2.1 hh.2.2 (fun q h => Nat.le_trans C0.2.2.2.1 h) hn hN hb hc hs hdg (fun q cA H1 hK hP hD hS => ?_)
  cases K_eq C0.2.2.1 hK ht
  rw [List.append_assoc] at hP hD
  exact kk q H1 ⟨hP, hD, hS⟩
theorem n_new {Cn : String} {T : u_T} {N ci index : Nat} {fs : List Value} (C0 : Cx p l s m args meth c cc nL own D cy n0) (hh : HL D n0 s (B0 ++ L) H locs) (hin : ∀ w ∈ u_ws Cn T N, w ∈ allw) (ty : Nat → FieldType) (hty : ∀ k, k < N → parseFieldDescriptor (T k).2.2.1 = some (ty k)) (w1 : Cond.classLink own index Cn ∈ allw) (w2 : Cond.instantiable Cn N ∈ allw) (w3 : Cond.initialized Cn ∈ allw) (hc : kcl[ci]? = some (Cn, T, N)) (hfs : ∀ j, j < N → defaultValue (ty j) = vp_V fs j) (hcl : cells + 1 ≤ R.cells) (hsl : slots + N ≤ R.slots) (hdg : decode cc pc = .ok (.new index, 3))
    (kk : ∀ (q : Nat) (H1 : Heap), HL D n0 s (B0 ++ (L ++ [(q, .inr (ci, fs))])) H1 locs → W p l e R s m args below meth c H1 locs (cells + 1) (slots + N) Q (F0 m (pc + 3) ls (.ref q :: rest))) : W p l e R s m args below meth c H locs cells slots Q (F0 m pc ls rest) := by
  refine va_new C0.1.1 C0.1.2.1 C0.1.2.2.2.2 hin ty hty C0.1.2.2.2.1 (C0.1.2.2.2.2 _ w1) (C0.1.2.2.2.2 _ w2) (C0.1.2.2.2.2 _ w3) C0.2.2.1 hh.1 hh.2.1 hh.2.2 (fun q h => Nat.le_trans C0.2.2.2.1 h) hc hfs hcl hsl hdg (fun q H1 hP hD hS => ?_)
  rw [List.append_assoc] at hP hD
  exact kk q H1 ⟨hP, hD, hS⟩
theorem HL.pw {ws : va_W} (C0 : Cx p l s m args meth c cc nL own D cy n0) (hh : HL D n0 s ws H locs) (U : State) (hU : U.heap = H) (hW : s.WarmedH U.vm) : PwL D cy n0 ws U := by
  obtain ⟨-, -, hK, hn, hZ, hN, -⟩ := C0
  obtain ⟨hP, hD, hS⟩ := hh
  exact ⟨by rw [hU]; exact Nat.le_trans hn hS.1, by rw [hU]; exact hP, hD, va_K.moved hW.alike hK, hZ.warm hW (fun a h1 h2 => by rw [hU]; exact hS.2.1 a h1 h2), hN.warm hW⟩
theorem n_call {y : MethodName} {bytes : ByteArray} {maxL mc ms n index a : Nat} {ws : List Cond} {rm : Room} {As st0 : List Value} {Wy Ly : va_W} {Post : va_W → Prop} (C0 : Cx p l s m args meth c cc nL own D cy n0) (hh : HL D n0 s (Wy ++ Ly) H locs) (hM : CtL l y ws rm mc ms (.ref a :: As) D cy n0 Wy Ly Post)
    (cw : CallB R s args own index y bytes maxL none ws rm mc ms n ∧ y.name = "<init>" ∧ (Cond.instanceMethod y).before args s = true) (hn : As.length = n) (hsz : ls.size = nL) (hst : st0 = As.reverse ++ .ref a :: rest) (hW : 2 * (F0 m pc ls st0).monitorRoom + (rest.map fun v => v.category).sum ≤ 8) (hdg : decode cc pc = .ok (.invokespecial index, 3)) (hf : cells + mc ≤ R.cells ∧ slots + ms ≤ R.slots)
    (kk : ∀ (L' : va_W) (H1 : Heap) (locs1 : List Loc), Post L' → HL D n0 s (Wy ++ L') H1 locs1 → W p l e R s m args below meth c H1 locs1 (cells + mc) (slots + ms) Q (F0 m (pc + 3) ls rest)) : W p l e R s m args below meth c H locs cells slots Q (F0 m pc ls st0) := by
  intro T hT X
  obtain ⟨v, st₀, t, T', Lx, h0, X', hL, e1, e2, ⟨hv, ⟨L', hpost, hz1, hz2⟩, hF⟩, st⟩ := va_runI (As := As) (rest := rest) C0.1 hM cw ⟨PwL_blind, fun U hU hW => ⟨rfl, hh.pw C0 U hU hW⟩⟩ rfl hn hsz hst hW hdg hf T hT X
  cases hv
  obtain ⟨k1, k2, k3⟩ := vx_keep (A0 := fun q => n0 ≤ q) (A1 := fun q => n0 ≤ q) (free := fun q => n0 ≤ q) h0 e1 hh.2.2 (fun _ _ h => h) (fun _ h => h) hL hF
  obtain ⟨t2, a1, b1⟩ := kk L' T'.heap (locs ++ Lx) hpost ⟨by rw [e1]; exact hz1, hz2, k3⟩ T' rfl X'
  exact ⟨t2, st t2 a1, b1⟩
theorem n_vret {Post : va_W → Prop} {mc ms : Nat} (C0 : Cx p l s m args meth c cc nL own D cy n0) (hh : HL D n0 s (B0 ++ L) H locs) (hp : Post L) (hr : meth.sig.returnType = none) (hc : cells ≤ mc) (hs : slots ≤ ms) (hdg : decode cc pc = .ok (.return_, 1)) : W p l e R s m args below meth c H locs cells slots (MQ below (QL D n0 Post B0) args s mc ms (fun q => n0 ≤ q)) (F0 m pc ls []) := by
  refine W.widen hc hs ?_
  exact W.vret C0.1.1 C0.1.2.1 hr (fun t ht hW => ⟨rfl, ⟨L, hp, by rw [ht]; exact hh.1, hh.2.1⟩, hh.2.2.F ht⟩) hh.2.2.2.2 hdg C0.2.1
end
section
/-! a new tool, a new order: the world grows -/
def sr (σ : Sg) (k i : Nat) (g : Nat → Int32) : Sg := (fun k' i' => if k' = k ∧ i' = i then g else σ.1 k' i', σ.2)
theorem sr_at (σ : Sg) (k i : Nat) (g : Nat → Int32) : (sr σ k i g).1 k i = g := if_pos ⟨rfl, rfl⟩
theorem sr_ne (σ : Sg) {k i k' i' : Nat} (g : Nat → Int32) (h : ¬ (k' = k ∧ i' = i)) : (sr σ k i g).1 k' i' = σ.1 k' i' := if_neg h
def tg (x1 x2 x3 x4 : Int32) : Nat → Int32 := fun p => match p with | 0 => x1 | 1 => x2 | 2 => x4 | 3 => x3 | 4 => 115 | _ => 0
def og (x1 x2 x3 : Int32) : Nat → Int32 := fun p => match p with | 0 => x1 | 1 => x2 | 2 => x3 | _ => 0
def nwT (σ : Sg) (n : Nat) (x1 x2 x3 x4 : Int32) : Sg := sr (sr (sr (sr (sr σ 1 n (tg x1 x2 x3 x4)) 2 n (fun _ => 0)) 3 n (fun _ => 0)) 4 n (fun _ => 0)) 5 n (fun _ => 0)
def adT (ad : Nat → Nat → Nat) (n h0 q1 q2 q3 q4 : Nat) : Nat → Nat → Nat := fun k i => match k with
  | 1 => if i = n then h0 else ad 1 i
  | 2 => if i = n then q1 else ad 2 i
  | 3 => if i = n then q2 else ad 3 i
  | 4 => if i = n then q3 else ad 4 i
  | 5 => if i = n then q4 else ad 5 i
  | k => ad k i
def adO (ad : Nat → Nat → Nat) (n h0 : Nat) : Nat → Nat → Nat := fun k i => match k with
  | 6 => if i = n then h0 else ad 6 i
  | k => ad k i
theorem P_mem {D : va_G} {ws ws' : va_W} {H : Heap} (h : va_P D kcl ws H) (hm : ∀ q ∈ ws', q ∈ ws) : va_P D kcl ws' H := fun k q hk => by
  obtain ⟨j, hj⟩ := List.getElem?_of_mem (hm q (List.mem_of_getElem? hk))
  exact h j q hj
theorem D_nd {A : Nat → Prop} {ws : va_W} : va_D A ws ↔ (ws.map (fun q => q.1)).Nodup ∧ ∀ q ∈ ws, A q.1 := by
  constructor
  · intro h
    refine ⟨?_, fun q hq => ?_⟩
    · show List.Pairwise _ _
      rw [List.pairwise_iff_getElem]
      intro i j hi hj hij he
      simp only [List.length_map] at hi hj
      simp only [List.getElem_map] at he
      have := h.1 i j (ws[i]) (ws[j]) (List.getElem?_eq_getElem hi) (List.getElem?_eq_getElem hj) he
      omega
    · obtain ⟨j, hj⟩ := List.getElem?_of_mem hq
      exact h.2 j q hj
  · intro h
    refine ⟨fun i j p q hi hj he => ?_, fun k q hk => h.2 q (List.mem_of_getElem? hk)⟩
    have h1 : (ws.map (fun q => q.1))[i]? = some p.1 := by simp [hi]
    have h2 : (ws.map (fun q => q.1))[j]? = some q.1 := by simp [hj]
    have hl : i < (ws.map (fun q => q.1)).length := (List.getElem?_eq_some_iff.mp h1).1
    exact (List.getElem?_inj hl h.1).mp (by rw [h1, h2, he])
theorem D_perm {A : Nat → Prop} {ws ws' : va_W} (hp : ws.Perm ws') (h : va_D A ws) : va_D A ws' :=
  D_nd.mpr ⟨(hp.map _).nodup_iff.mp (D_nd.mp h).1, fun q hq => (D_nd.mp h).2 q (hp.mem_iff.mpr hq)⟩
theorem rb_k : ∀ r ∈ rb, (r.1 = 1 ∨ r.1 = 2 ∨ r.1 = 3 ∨ r.1 = 4 ∨ r.1 = 5) → r.2 = 8 := by decide
theorem rb_6 : ∀ r ∈ rb, ¬ r.1 = 6 := by decide
theorem rb_1 : ∀ r ∈ rb, ¬ r.1 = 1 := by decide
theorem rl_old {nT nO k i : Nat} (h8 : nT < 8) (h : (k, i) ∈ rl nT nO) (hk : k = 1 ∨ k = 2 ∨ k = 3 ∨ k = 4 ∨ k = 5) : ¬ i = nT := by
  rcases List.mem_append.mp h with h | h
  · have := rb_k (k, i) h hk
    simp at this
    omega
  · rcases List.mem_append.mp h with h | h
    · obtain ⟨j, hj, h⟩ := List.mem_flatMap.mp h
      have := List.mem_range.mp hj
      simp at h
      omega
    · obtain ⟨j, -, h⟩ := List.mem_map.mp h
      cases h
      omega
theorem rl_old6 {nT nO i : Nat} (h : (6, i) ∈ rl nT nO) : ¬ i = nO := by
  rcases List.mem_append.mp h with h | h
  · exact absurd rfl (rb_6 _ h)
  · rcases List.mem_append.mp h with h | h
    · obtain ⟨j, hj, h⟩ := List.mem_flatMap.mp h
      simp at h
    · obtain ⟨j, hj, h⟩ := List.mem_map.mp h
      have := List.mem_range.mp hj
      cases h
      omega
variable {ad : Nat → Nat → Nat} {cy : Nat → ClassId} {σ : Sg} {nT nO : Nat}
theorem nwT_old {n : Nat} {x1 x2 x3 x4 : Int32} {k i : Nat} (h : (k = 1 ∨ k = 2 ∨ k = 3 ∨ k = 4 ∨ k = 5) → ¬ i = n) : (nwT σ n x1 x2 x3 x4).1 k i = σ.1 k i := by
  unfold nwT
  rw [sr_ne _ _ (by omega), sr_ne _ _ (by omega), sr_ne _ _ (by omega), sr_ne _ _ (by omega), sr_ne _ _ (by omega)]
theorem old_T {h0 q1 q2 q3 q4 : Nat} {x1 x2 x3 x4 : Int32} (h8 : nT < 8) (hI : Iv0 nT nO σ) {r : Nat × Nat} (h : r ∈ rl nT nO) :
    ((adT ad nT h0 q1 q2 q3 q4) r.1 r.2, ce (adT ad nT h0 q1 q2 q3 q4) cy (nwT σ nT x1 x2 x3 x4) r.1 r.2) = (ad r.1 r.2, ce ad cy σ r.1 r.2) := by
  obtain ⟨k, i⟩ := r
  have ho := fun hk => rl_old h8 h hk
  have hrow : (nwT σ nT x1 x2 x3 x4).1 k i = σ.1 k i := nwT_old ho
  show (adT ad nT h0 q1 q2 q3 q4 k i, ce (adT ad nT h0 q1 q2 q3 q4) cy (nwT σ nT x1 x2 x3 x4) k i) = (ad k i, ce ad cy σ k i)
  unfold ce
  rw [hrow, show (nwT σ nT x1 x2 x3 x4).2 = σ.2 from rfl]
  have h8' : ¬ 8 = nT := by omega
  match k, h, ho with
  | 0, _, _ => simp [adT, cr, h8']
  | 1, _, ho => have := ho (by omega); simp [adT, cr, this]
  | 2, _, ho => have := ho (by omega); simp [adT, cr, this]
  | 3, _, ho => have := ho (by omega); simp [adT, cr, this]
  | 4, _, ho => have := ho (by omega); simp [adT, cr, this]
  | 5, _, ho => have := ho (by omega); simp [adT, cr, this]
  | 6, _, _ => simp [adT, cr]
  | 7, _, _ => simp [adT, cr]
  | 8, _, _ => simp [adT, cr]
  | 9, _, _ => simp [adT, cr]
  | 10, h, _ =>
    have hi : i = 0 := by
      rcases List.mem_append.mp h with h | h
      · have h1 : ∀ r ∈ rb, r.1 = 10 → r.2 = 0 := by decide
        exact h1 (10, i) h rfl
      · rcases List.mem_append.mp h with h | h
        · obtain ⟨j, -, h⟩ := List.mem_flatMap.mp h
          simp at h
        · obtain ⟨j, -, h⟩ := List.mem_map.mp h
          cases h
    subst hi
    have hf : (fun j => if σ.1 10 0 j = 0 then (none : Option Nat) else some (adT ad nT h0 q1 q2 q3 q4 1 j)) = (fun j => if σ.1 10 0 j = 0 then none else some (ad 1 j)) := by
      funext j
      by_cases hz : σ.1 10 0 j = 0
      · rw [if_pos hz, if_pos hz]
      · have := hI.1 j hz
        rw [if_neg hz, if_neg hz]
        have hne : ¬ j = nT := by omega
        simp [adT, hne]
    show (ad 10 0, (Sum.inl (cy 4, 8, Sum.inr (Sum.inr (Sum.inr (Sum.inr (fun j => if σ.1 10 0 j = 0 then (none : Option Nat) else some (adT ad nT h0 q1 q2 q3 q4 1 j)))))) : va_E)) = _
    rw [hf]
    rfl
  | 11, _, _ => simp [adT, cr]
  | 12, _, _ => simp [adT, cr]
  | 13, _, _ => simp [adT, cr]
  | n + 14, _, _ => simp [adT, cr]
theorem new_T {h0 q1 q2 q3 q4 : Nat} {x1 x2 x3 x4 : Int32} : [(1, nT), (2, nT), (3, nT), (4, nT), (5, nT)].map (fun r : Nat × Nat => ((adT ad nT h0 q1 q2 q3 q4) r.1 r.2, ce (adT ad nT h0 q1 q2 q3 q4) cy (nwT σ nT x1 x2 x3 x4) r.1 r.2)) =
    [(h0, .inr (2, [.int x1, .int x2, .int x4, .int x3, .int 115, .ref q1, .int 0, .int 0, .int 0, .int 0, .int 0, .int 0, .int 0, .int 0])), (q1, .inr (1, [.int 0, .int 0, .int 0, .int 0, .int 0, .ref q2, .ref q3, .ref q4])), (q2, .inl (cy 1, 60, .inl (fun _ => 0))), (q3, .inl (cy 1, 60, .inl (fun _ => 0))), (q4, .inl (cy 1, 60, .inl (fun _ => 0)))] := by
  have e1 : (nwT σ nT x1 x2 x3 x4).1 1 nT = tg x1 x2 x3 x4 := by
    unfold nwT
    rw [sr_ne _ _ (by omega), sr_ne _ _ (by omega), sr_ne _ _ (by omega), sr_ne _ _ (by omega), sr_at]
  have e2 : (nwT σ nT x1 x2 x3 x4).1 2 nT = fun _ => 0 := by
    unfold nwT
    rw [sr_ne _ _ (by omega), sr_ne _ _ (by omega), sr_ne _ _ (by omega), sr_at]
  have e3 : (nwT σ nT x1 x2 x3 x4).1 3 nT = fun _ => 0 := by
    unfold nwT
    rw [sr_ne _ _ (by omega), sr_ne _ _ (by omega), sr_at]
  have e4 : (nwT σ nT x1 x2 x3 x4).1 4 nT = fun _ => 0 := by
    unfold nwT
    rw [sr_ne _ _ (by omega), sr_at]
  have e5 : (nwT σ nT x1 x2 x3 x4).1 5 nT = fun _ => 0 := by
    unfold nwT
    rw [sr_at]
  simp [ce, cr, adT, e1, e2, e3, e4, e5, tg]
theorem split_T {f : Nat × Nat → Nat × va_E} : ((rl (nT + 1) nO).map f).Perm ((rl nT nO).map f ++ [(1, nT), (2, nT), (3, nT), (4, nT), (5, nT)].map f) := by
  rw [← List.map_append]
  refine List.Perm.map f ?_
  unfold rl
  rw [show rt (nT + 1) = rt nT ++ [(1, nT), (2, nT), (3, nT), (4, nT), (5, nT)] by unfold rt; rw [List.range_succ, List.flatMap_append]; rfl]
  rw [List.append_assoc, List.append_assoc]
  refine List.Perm.append_left rb ?_
  rw [List.append_assoc]
  exact List.Perm.append_left (rt nT) List.perm_append_comm
theorem grow_T {D : va_G} {n0 h0 q1 q2 q3 q4 : Nat} {s : State} {H : Heap} {locs : List Loc} {x1 x2 x3 x4 : Int32} (h8 : nT < 8) (hI : Iv0 nT nO σ)
    (hh : HL D n0 s (wd ad cy σ nT nO ++ [(h0, .inr (2, [.int x1, .int x2, .int x4, .int x3, .int 115, .ref q1, .int 0, .int 0, .int 0, .int 0, .int 0, .int 0, .int 0, .int 0])), (q1, .inr (1, [.int 0, .int 0, .int 0, .int 0, .int 0, .ref q2, .ref q3, .ref q4])), (q2, .inl (cy 1, 60, .inl (fun _ => 0))), (q3, .inl (cy 1, 60, .inl (fun _ => 0))), (q4, .inl (cy 1, 60, .inl (fun _ => 0)))]) H locs) :
    Hq D cy n0 (adT ad nT h0 q1 q2 q3 q4) (nT + 1) nO s (nwT σ nT x1 x2 x3 x4) H locs := by
  have hp : (wd (adT ad nT h0 q1 q2 q3 q4) cy (nwT σ nT x1 x2 x3 x4) (nT + 1) nO).Perm _ := split_T
  rw [new_T, List.map_congr_left (fun r hr => old_T h8 hI hr)] at hp
  refine ⟨P_mem hh.1 (fun q hq => hp.mem_iff.mp hq), D_perm hp.symm hh.2.1, hh.2.2, fun j hj => ?_, fun j hj => ?_⟩
  · rw [nwT_old (by omega)] at hj
    exact Nat.lt_succ_of_lt (hI.1 j hj)
  · rw [nwT_old (by omega)] at hj
    exact hI.2 j hj
theorem old_O {h0 : Nat} {g : Nat → Int32} (hI : Iv0 nT nO σ) {r : Nat × Nat} (h : r ∈ rl nT nO) :
    ((adO ad nO h0) r.1 r.2, ce (adO ad nO h0) cy (sr σ 6 nO g) r.1 r.2) = (ad r.1 r.2, ce ad cy σ r.1 r.2) := by
  obtain ⟨k, i⟩ := r
  have hrow : (sr σ 6 nO g).1 k i = σ.1 k i := sr_ne σ g (fun hk => by
    obtain ⟨rfl, rfl⟩ := hk
    exact rl_old6 h rfl)
  show (adO ad nO h0 k i, ce (adO ad nO h0) cy (sr σ 6 nO g) k i) = (ad k i, ce ad cy σ k i)
  unfold ce
  rw [hrow, show (sr σ 6 nO g).2 = σ.2 from rfl]
  match k, h with
  | 0, _ => simp [adO, cr]
  | 1, _ => simp [adO, cr]
  | 2, _ => simp [adO, cr]
  | 3, _ => simp [adO, cr]
  | 4, _ => simp [adO, cr]
  | 5, _ => simp [adO, cr]
  | 6, h => have := rl_old6 h; simp [adO, cr, this]
  | 7, _ => simp [adO, cr]
  | 8, _ => simp [adO, cr]
  | 9, _ => simp [adO, cr]
  | 10, _ => simp [adO, cr]
  | 11, h =>
    have hi : i = 0 := by
      rcases List.mem_append.mp h with h | h
      · have h1 : ∀ r ∈ rb, r.1 = 11 → r.2 = 0 := by decide
        exact h1 (11, i) h rfl
      · rcases List.mem_append.mp h with h | h
        · obtain ⟨j, -, h⟩ := List.mem_flatMap.mp h
          simp at h
        · obtain ⟨j, -, h⟩ := List.mem_map.mp h
          cases h
    subst hi
    have hf : (fun j => if σ.1 11 0 j = 0 then (none : Option Nat) else some (adO ad nO h0 6 j)) = (fun j => if σ.1 11 0 j = 0 then none else some (ad 6 j)) := by
      funext j
      by_cases hz : σ.1 11 0 j = 0
      · rw [if_pos hz, if_pos hz]
      · have := hI.2 j hz
        rw [if_neg hz, if_neg hz]
        have hne : ¬ j = nO := by omega
        simp [adO, hne]
    show (ad 11 0, (Sum.inl (cy 3, 6, Sum.inr (Sum.inr (Sum.inr (Sum.inr (fun j => if σ.1 11 0 j = 0 then (none : Option Nat) else some (adO ad nO h0 6 j)))))) : va_E)) = _
    rw [hf]
    rfl
  | 12, _ => simp [adO, cr]
  | 13, _ => simp [adO, cr]
  | n + 14, _ => simp [adO, cr]
theorem grow_O {D : va_G} {n0 h0 : Nat} {s : State} {H : Heap} {locs : List Loc} {x1 x2 x3 : Int32} (hI : Iv0 nT nO σ)
    (hh : HL D n0 s (wd ad cy σ nT nO ++ [(h0, .inr (0, [.int x1, .int x2, .int x3, .int 0]))]) H locs) : Hq D cy n0 (adO ad nO h0) nT (nO + 1) s (sr σ 6 nO (og x1 x2 x3)) H locs := by
  have he : wd (adO ad nO h0) cy (sr σ 6 nO (og x1 x2 x3)) nT (nO + 1) = wd ad cy σ nT nO ++ [(h0, .inr (0, [.int x1, .int x2, .int x3, .int 0]))] := by
    unfold wd
    rw [show rl nT (nO + 1) = rl nT nO ++ [(6, nO)] by unfold rl ro; rw [List.range_succ, List.map_append, List.append_assoc, List.append_assoc]; rfl]
    rw [List.map_append, List.map_congr_left (fun r hr => old_O hI hr)]
    have e1 : (sr σ 6 nO (og x1 x2 x3)).1 6 nO = og x1 x2 x3 := sr_at _ _ _ _
    simp [ce, cr, adO, e1, og]
  refine ⟨by rw [he]; exact hh.1, by rw [he]; exact hh.2.1, hh.2.2, fun j hj => ?_, fun j hj => ?_⟩
  · rw [sr_ne _ _ (by omega)] at hj
    exact hI.1 j hj
  · rw [sr_ne _ _ (by omega)] at hj
    exact Nat.lt_succ_of_lt (hI.2 j hj)
end
section
def AdX (ad ad' : Nat → Nat → Nat) : Prop := ∀ k, k = 0 ∨ k = 7 ∨ k = 12 ∨ k = 13 → ad' k 0 = ad k 0
/-- behind a call that makes a tool (dT = 1) or an order (dO = 1) -/
def QxB (D : va_G) (cy : Nat → ClassId) (n0 : Nat) (ad : Nat → Nat → Nat) (nT nO dT dO : Nat) (r : (Nat ⊕ Int32) × Sg) : Array Value → State → Outcome → State → Prop := fun _ st oc t =>
  (∃ v, r.1 = .inr v ∧ oc = .returned (some (.int v))) ∧ (∃ ad', AdX ad ad' ∧ Pz D cy ad' (nT + dT) (nO + dO) r.2 t ∧ va_D (fun q => n0 ≤ q) (wd ad' cy r.2 (nT + dT) (nO + dO))) ∧ va_F (fun q => n0 ≤ q) st t
abbrev QzB (below : List Frame) (args : Array Value) (s : State) (D : va_G) (cy : Nat → ClassId) (n0 : Nat) (ad : Nat → Nat → Nat) (nT nO dT dO mc ms : Nat) : (Nat ⊕ Int32) × Sg → State → Prop := fun r => vx_MQ below (QxB D cy n0 ad nT nO dT dO r) (XC D cy n0 ad nT nO r) args s mc ms (fun q => n0 ≤ q)
def CtB (l : Launch) (y : MethodName) (ws : List Cond) (rm : Room) (mc ms : Nat) (As : List Value) (D : va_G) (cy : Nat → ClassId) (n0 : Nat) (ad : Nat → Nat → Nat) (nT nO dT dO : Nat) (σ : Sg) (o : Option ((Nat ⊕ Int32) × Sg)) : Prop :=
  ∀ r, o = some r → vx_Met l y ws rm (va_Pc As (Pw D cy n0 ad nT nO σ)) (QxB D cy n0 ad nT nO dT dO r) (XC D cy n0 ad nT nO r) mc ms (fun q => n0 ≤ q)
variable {p : Program} {l : Launch} {e : Env} {R : Room} {s : State} {m : MethodId} {args : Array Value} {below : List Frame} {meth : Method} {c : Code} {cc : ByteArray} {nL : Nat} {own : String} {D : va_G} {cy : Nat → ClassId} {n0 : Nat} {ad ad' : Nat → Nat → Nat} {nT nO dT dO : Nat} {σ : Sg} {H : Heap} {locs : List Loc} {cells slots pc mc ms : Nat} {ls : Array Slot} {rest : List Value} {β : Type} {Qf : β → State → Prop} {o : Option β}
theorem s_iretB (C0 : Cx p l s m args meth c cc nL own D cy n0) (hx : AdX ad ad') (hh : Hp D cy n0 ad' (nT + dT) (nO + dO) s σ H locs) {v : Int32} {ty : FieldType} (hr : meth.sig.returnType = some ty) (hn : narrow ty (.int v) = .int v) (hc : cells ≤ mc) (hs : slots ≤ ms) (hdg : decode cc pc = .ok (.ireturn, 1)) :
    Sm (QzB below args s D cy n0 ad nT nO dT dO mc ms) (some (.inr v, σ)) p l e R s m args below meth c H locs cells slots (F0 m pc ls [.int v]) := by
  intro r h
  cases h
  refine W.widen hc hs ?_
  exact vx_ret (W.zret C0.1.1 C0.1.2.1 hr hn (fun t ht hW => ⟨⟨_, rfl, rfl⟩, ⟨ad', hx, ⟨by rw [ht]; exact hh.1, hh.2.2.2⟩, hh.2.1⟩, hh.2.2.1.F ht⟩) hh.2.2.1.2.2 hdg C0.2.1)
theorem s_aastT {j : Int32} {n v : Nat} (C0 : Cx p l s m args meth c cc nL own D cy n0) (hh : Hq D cy n0 ad nT nO s σ H locs) (hv : v = ad 1 n) (hn : j.toNatClampNeg = n) (hT : n < nT) (hj : ¬ (j < 0 ∨ 8 ≤ j.toNatClampNeg)) (hdg : decode cc pc = .ok (.aastore, 1))
    (kk : ∀ (H1 : Heap) (locs1 : List Loc), Hq D cy n0 ad nT nO s (sv σ 10 0 n 1) H1 locs1 → Sm Qf o p l e R s m args below meth c H1 locs1 cells slots (F0 m (pc + 1) ls rest)) : Sm Qf o p l e R s m args below meth c H locs cells slots (F0 m pc ls (.ref v :: .int j :: .ref (ad 10 0) :: rest)) := by
  intro r h
  subst hv; subst hn
  obtain ⟨q, hq, hq2⟩ := wd_get (ad := ad) (cy := cy) (σ := σ) (nT := nT) (nO := nO) (rl_b (r := (10, 0)) (by decide))
  obtain ⟨qk, hqk, -⟩ := wd_get (ad := ad) (cy := cy) (σ := σ) (nT := nT) (nO := nO) (rl_1 hT)
  refine va_astq C0.1.1 C0.1.2.1 C0.2.2.1 hh.1 hh.2.1 hh.2.2.1 q 4 qk 2 (r := (RX2, TX2, 14)) hq rfl hqk rfl hj hdg (fun H1 locs1 hP hD hS => ?_)
  have hs := wd_set (σ' := sv σ 10 0 j.toNatClampNeg 1) hh.2.1 hq2 (fun k' i' _ hne => ce_sv k' i' hne)
  rw [ce_at] at hs
  have hf : (fun i => if upd (σ.1 10 0) j.toNatClampNeg 1 i = 0 then (none : Option Nat) else some (ad 1 i)) = va_up (fun i => if σ.1 10 0 i = 0 then none else some (ad 1 i)) j.toNatClampNeg (some (ad 1 j.toNatClampNeg)) := by
    funext i
    unfold upd va_up
    by_cases hi : i = j.toNatClampNeg <;> simp [hi]
  have e2 : cr ad cy σ.2 10 0 (upd (σ.1 10 0) j.toNatClampNeg 1) = .inl (cy 4, 8, .inr (.inr (.inr (.inr (va_up (fun i => if σ.1 10 0 i = 0 then none else some (ad 1 i)) j.toNatClampNeg (some (ad 1 j.toNatClampNeg))))))) := by
    show (Sum.inl (cy 4, 8, Sum.inr (Sum.inr (Sum.inr (Sum.inr (fun i => if upd (σ.1 10 0) j.toNatClampNeg 1 i = 0 then (none : Option Nat) else some (ad 1 i)))))) : va_E) = _
    rw [hf]
  rw [e2] at hs
  have hP2 : va_P D kcl ((wd ad cy σ nT nO).set q (ad 10 0, .inl (cy 4, 8, .inr (.inr (.inr (.inr (va_up (fun i => if σ.1 10 0 i = 0 then none else some (ad 1 i)) j.toNatClampNeg (some (ad 1 j.toNatClampNeg))))))))) H1 := hP
  rw [hs] at hP2
  refine kk H1 locs1 ⟨hP2, wd_D hh.2.1, hS, fun i hi => ?_, fun i hi => hh.2.2.2.2 i (fun hz => hi ?_)⟩ r h
  · by_cases hij : i = j.toNatClampNeg
    · rw [hij]; exact hT
    · refine hh.2.2.2.1 i (fun hz => hi ?_)
      rw [sv_at]; unfold upd; rw [if_neg hij]; exact hz
  · rw [sv_ne σ _ _ (by omega)]; exact hz
theorem s_aastO {j : Int32} {n v : Nat} (C0 : Cx p l s m args meth c cc nL own D cy n0) (hh : Hq D cy n0 ad nT nO s σ H locs) (hv : v = ad 6 n) (hn : j.toNatClampNeg = n) (hT : n < nO) (hj : ¬ (j < 0 ∨ 6 ≤ j.toNatClampNeg)) (hdg : decode cc pc = .ok (.aastore, 1))
    (kk : ∀ (H1 : Heap) (locs1 : List Loc), Hq D cy n0 ad nT nO s (sv σ 11 0 n 1) H1 locs1 → Sm Qf o p l e R s m args below meth c H1 locs1 cells slots (F0 m (pc + 1) ls rest)) : Sm Qf o p l e R s m args below meth c H locs cells slots (F0 m pc ls (.ref v :: .int j :: .ref (ad 11 0) :: rest)) := by
  intro r h
  subst hv; subst hn
  obtain ⟨q, hq, hq2⟩ := wd_get (ad := ad) (cy := cy) (σ := σ) (nT := nT) (nO := nO) (rl_b (r := (11, 0)) (by decide))
  obtain ⟨qk, hqk, -⟩ := wd_get (ad := ad) (cy := cy) (σ := σ) (nT := nT) (nO := nO) (rl_6 hT)
  refine va_astq C0.1.1 C0.1.2.1 C0.2.2.1 hh.1 hh.2.1 hh.2.2.1 q 3 qk 0 (r := (RX0, TX0, 4)) hq rfl hqk rfl hj hdg (fun H1 locs1 hP hD hS => ?_)
  have hs := wd_set (σ' := sv σ 11 0 j.toNatClampNeg 1) hh.2.1 hq2 (fun k' i' _ hne => ce_sv k' i' hne)
  rw [ce_at] at hs
  have hf : (fun i => if upd (σ.1 11 0) j.toNatClampNeg 1 i = 0 then (none : Option Nat) else some (ad 6 i)) = va_up (fun i => if σ.1 11 0 i = 0 then none else some (ad 6 i)) j.toNatClampNeg (some (ad 6 j.toNatClampNeg)) := by
    funext i
    unfold upd va_up
    by_cases hi : i = j.toNatClampNeg <;> simp [hi]
  have e2 : cr ad cy σ.2 11 0 (upd (σ.1 11 0) j.toNatClampNeg 1) = .inl (cy 3, 6, .inr (.inr (.inr (.inr (va_up (fun i => if σ.1 11 0 i = 0 then none else some (ad 6 i)) j.toNatClampNeg (some (ad 6 j.toNatClampNeg))))))) := by
    show (Sum.inl (cy 3, 6, Sum.inr (Sum.inr (Sum.inr (Sum.inr (fun i => if upd (σ.1 11 0) j.toNatClampNeg 1 i = 0 then (none : Option Nat) else some (ad 6 i)))))) : va_E) = _
    rw [hf]
  rw [e2] at hs
  have hP2 : va_P D kcl ((wd ad cy σ nT nO).set q (ad 11 0, .inl (cy 3, 6, .inr (.inr (.inr (.inr (va_up (fun i => if σ.1 11 0 i = 0 then none else some (ad 6 i)) j.toNatClampNeg (some (ad 6 j.toNatClampNeg))))))))) H1 := hP
  rw [hs] at hP2
  refine kk H1 locs1 ⟨hP2, wd_D hh.2.1, hS, fun i hi => hh.2.2.2.1 i (fun hz => hi ?_), fun i hi => ?_⟩ r h
  · rw [sv_ne σ _ _ (by omega)]; exact hz
  · by_cases hij : i = j.toNatClampNeg
    · rw [hij]; exact hT
    · refine hh.2.2.2.2 i (fun hz => hi ?_)
      rw [sv_at]; unfold upd; rw [if_neg hij]; exact hz
def tl_blank (σ : Sg) (x1 x2 x3 x4 : Int32) : Option ((Nat ⊕ Int32) × Sg) :=
  if σ.1 0 0 1 < 0 ∨ 8 ≤ (σ.1 0 0 1).toNatClampNeg then none else if (x1.toUInt32 % 65536).toInt32 = x1 then
    some (.inr (σ.1 0 0 1 + 1 - 1), sv (sv (nwT σ (σ.1 0 0 1).toNatClampNeg x1 x2 x3 x4) 10 0 (σ.1 0 0 1).toNatClampNeg 1) 0 0 1 (σ.1 0 0 1 + 1)) else none
def tl_order (σ : Sg) (x1 x2 x3 : Int32) : Option ((Nat ⊕ Int32) × Sg) :=
  if σ.1 0 0 3 < 0 ∨ 6 ≤ (σ.1 0 0 3).toNatClampNeg then none else if (x1.toUInt32 % 65536).toInt32 = x1 ∧ (x2.toUInt32 % 65536).toInt32 = x2 then
    some (.inr (σ.1 0 0 3 + 1 - 1), sv (sv (sr σ 6 (σ.1 0 0 3).toNatClampNeg (og x1 x2 x3)) 11 0 (σ.1 0 0 3).toNatClampNeg 1) 0 0 3 (σ.1 0 0 3 + 1)) else none
end
section
theorem hq_p {D : va_G} {cy : Nat → ClassId} {n0 : Nat} {ad : Nat → Nat → Nat} {nT nO : Nat} {s : State} {σ : Sg} {H : Heap} {locs : List Loc} (h : Hq D cy n0 ad nT nO s σ H locs) (h1 : nT = (σ.1 0 0 1).toNatClampNeg) (h2 : nO = (σ.1 0 0 3).toNatClampNeg) : Hp D cy n0 ad nT nO s σ H locs := ⟨h.1, h.2.1, h.2.2.1, h.2.2.2, h1, h2⟩
theorem cnt_1 {x : Int32} {N : Nat} (hj : ¬ (x < 0 ∨ N ≤ x.toNatClampNeg)) (hN : N ≤ 8 := by omega) : (x + 1).toNatClampNeg = x.toNatClampNeg + 1 := by
  have h0 : ¬ x < 0 := fun h => hj (Or.inl h)
  have h1 : x.toNatClampNeg < N := Nat.lt_of_not_le (fun h => hj (Or.inr h))
  obtain ⟨n, hn, rfl⟩ := nI_of h0
  rw [nI_clamp hn] at h1 ⊢
  rw [nI_1, nI_clamp (by omega)]
end
section
variable {p : Program} {l : Launch} {e : Env} {R : Room} {s : State} {m : MethodId} {args : Array Value} {below : List Frame} {meth : Method} {c : Code} {cc : ByteArray} {nL : Nat} {own : String} {D : va_G} {cy : Nat → ClassId} {n0 : Nat} {ad : Nat → Nat → Nat} {nT nO : Nat} {σ : Sg} {H : Heap} {locs : List Loc} {cells slots pc : Nat} {ls : Array Slot} {rest : List Value} {β : Type} {Qf : β → State → Prop} {o o1 o2 : Option β}
theorem ce_sr (σ : Sg) {k i : Nat} (g : Nat → Int32) (k' i' : Nat) (h : ¬ (k' = k ∧ i' = i)) : ce ad cy (sr σ k i g) k' i' = ce ad cy σ k' i' := by
  unfold ce
  rw [sr_ne σ g h]
  rfl
theorem Iv.sr (h : Iv nT nO σ) (k i : Nat) (g : Nat → Int32) (h10 : ¬ k = 10) (h11 : ¬ k = 11) (h0 : ¬ k = 0) : Iv nT nO (sr σ k i g) := by
  refine ⟨⟨fun j hz => h.1.1 j ?_, fun j hz => h.1.2 j ?_⟩, ?_, ?_⟩
  · rw [sr_ne σ g (fun q => h10 q.1.symm)] at hz; exact hz
  · rw [sr_ne σ g (fun q => h11 q.1.symm)] at hz; exact hz
  · rw [sr_ne σ g (fun q => h0 q.1.symm)]; exact h.2.1
  · rw [sr_ne σ g (fun q => h0 q.1.symm)]; exact h.2.2
/-- System.arraycopy of all 60 elements -/
theorem s_acopy (C0 : Cx p l s m args meth c cc nL own D cy n0) (hh : Hp D cy n0 ad nT nO s σ H locs) {kd i i' t0 index : Nat} {cA : ClassId} (hr : (kd, i) ∈ rl nT nO) (hr' : (kd, i') ∈ rl nT nO)
    (he : ∀ g, cr ad cy σ.2 kd i g = .inl (cA, 60, .inl g)) (he' : ∀ g, cr ad cy σ.2 kd i' g = .inl (cA, 60, .inl g)) (ht : (tyl cy)[t0]? = some (cA, .int)) (h10 : ¬ kd = 10) (h11 : ¬ kd = 11) (h00 : ¬ kd = 0)
    (w1 : Cond.methodLink own index arraycopyName ∈ allw) (w2 : Cond.native arraycopyName ∈ allw) (w3 : Cond.static arraycopyName ∈ allw) (w4 : Cond.initialized "java/lang/System" ∈ allw) (hsz : ls.size = nL)
    (hf : 1 ≤ R.frames) (hl : (rest.map fun v => v.category).sum + (nativeFrameWords "java/lang/System" "arraycopy" 5 + 11) ≤ R.locals) (hdg : decode cc pc = .ok (.invokestatic index, 3))
    (kk : ∀ (H1 : Heap) (locs1 : List Loc), Hp D cy n0 ad nT nO s (sr σ kd i' (va_cpy (σ.1 kd i) (σ.1 kd i') 0 0 60)) H1 locs1 → Sm Qf o p l e R s m args below meth c H1 locs1 cells slots (F0 m (pc + 3) ls rest)) :
    Sm Qf o p l e R s m args below meth c H locs cells slots (F0 m pc ls (.int 60 :: .int 0 :: .ref (ad kd i') :: .int 0 :: .ref (ad kd i) :: rest)) := by
  intro r h
  obtain ⟨q, hq, -⟩ := wd_get (ad := ad) (cy := cy) (σ := σ) hr
  obtain ⟨q', hq', hq2⟩ := wd_get (ad := ad) (cy := cy) (σ := σ) hr'
  rw [show ce ad cy σ kd i = _ from he _] at hq
  rw [show ce ad cy σ kd i' = _ from he' _] at hq'
  refine va_copyi C0.1.1 C0.1.2.1 (C0.1.2.2.1.trans hsz.symm) C0.1.2.2.2.1 (C0.1.2.2.2.2 _ w1) (C0.1.2.2.2.2 _ w2) (C0.1.2.2.2.2 _ w3) (C0.1.2.2.2.2 _ w4) C0.2.2.1 hh.1 hh.2.1 hh.2.2.1 q q' t0 t0 hq hq' ht ht rfl
    (sp := 0) (dp := 0) (n := 60) (by decide) (by decide) (by decide) (by decide) (by decide) (fun _ _ => rfl) hf hl hdg (fun H1 locs1 hP hD hS => ?_)
  have hs := wd_set (σ' := sr σ kd i' (va_cpy (σ.1 kd i) (σ.1 kd i') 0 0 60)) hh.2.1 hq2 (fun k' i' _ hne => ce_sr σ _ k' i' hne)
  rw [show ce ad cy (sr σ kd i' (va_cpy (σ.1 kd i) (σ.1 kd i') 0 0 60)) kd i' = .inl (cA, 60, .inl (va_cpy (σ.1 kd i) (σ.1 kd i') 0 0 60)) from (by unfold ce; rw [sr_at]; exact he' _)] at hs
  have e0 : (0 : Int32).toNatClampNeg = 0 := by decide
  have e6 : (60 : Int32).toNatClampNeg = 60 := by decide
  rw [e0, e6, hs] at hP
  exact kk H1 locs1 ⟨hP, wd_D hh.2.1, hS, hh.2.2.2.sr _ _ _ h10 h11 h00⟩ r h
end
section
theorem dfX1 : ∀ j, j < 8 → defaultValue (tyX1 j) = vp_V [.int 0, .int 0, .int 0, .int 0, .int 0, .null, .null, .null] j := by
  intro j hj
  match j, hj with
  | 0, _ => rfl
  | 1, _ => rfl
  | 2, _ => rfl
  | 3, _ => rfl
  | 4, _ => rfl
  | 5, _ => rfl
  | 6, _ => rfl
  | 7, _ => rfl
  | n + 8, h => exact absurd h (by omega)
theorem dfX2 : ∀ j, j < 14 → defaultValue (tyX2 j) = vp_V [.int 0, .int 0, .int 0, .int 0, .int 0, .null, .int 0, .int 0, .int 0, .int 0, .int 0, .int 0, .int 0, .int 0] j := by
  intro j hj
  match j, hj with
  | 0, _ => rfl
  | 1, _ => rfl
  | 2, _ => rfl
  | 3, _ => rfl
  | 4, _ => rfl
  | 5, _ => rfl
  | 6, _ => rfl
  | 7, _ => rfl
  | 8, _ => rfl
  | 9, _ => rfl
  | 10, _ => rfl
  | 11, _ => rfl
  | 12, _ => rfl
  | 13, _ => rfl
  | n + 14, h => exact absurd h (by omega)
theorem dfX3 : ∀ j, j < 6 → defaultValue (tyX3 j) = vp_V [.null, .int 0, .null, .int 0, .long 0, .null] j := by
  intro j hj
  match j, hj with
  | 0, _ => rfl
  | 1, _ => rfl
  | 2, _ => rfl
  | 3, _ => rfl
  | 4, _ => rfl
  | 5, _ => rfl
  | n + 6, h => exact absurd h (by omega)
theorem dfX0 : ∀ j, j < 4 → defaultValue (tyX0 j) = vp_V [.int 0, .int 0, .int 0, .int 0] j := by
  intro j hj
  match j, hj with
  | 0, _ => rfl
  | 1, _ => rfl
  | 2, _ => rfl
  | 3, _ => rfl
  | n + 4, h => exact absurd h (by omega)
theorem dfX4 : ∀ j, j < 28 → defaultValue (tyX4 j) = vp_V [.int 0, .int 0, .null, .null, .null, .null, .null, .null, .null, .null, .null, .null, .null, .null, .null, .null, .null, .null, .null, .null, .null, .null, .int 0, .int 0, .null, .null, .null, .null] j := by
  intro j hj
  match j, hj with
  | 0, _ => rfl
  | 1, _ => rfl
  | 2, _ => rfl
  | 3, _ => rfl
  | 4, _ => rfl
  | 5, _ => rfl
  | 6, _ => rfl
  | 7, _ => rfl
  | 8, _ => rfl
  | 9, _ => rfl
  | 10, _ => rfl
  | 11, _ => rfl
  | 12, _ => rfl
  | 13, _ => rfl
  | 14, _ => rfl
  | 15, _ => rfl
  | 16, _ => rfl
  | 17, _ => rfl
  | 18, _ => rfl
  | 19, _ => rfl
  | 20, _ => rfl
  | 21, _ => rfl
  | 22, _ => rfl
  | 23, _ => rfl
  | 24, _ => rfl
  | 25, _ => rfl
  | 26, _ => rfl
  | 27, _ => rfl
  | n + 28, h => exact absurd h (by omega)
variable {p : Program} {l : Launch} {e : Env} {R : Room} {s : State} {m : MethodId} {args : Array Value} {below : List Frame} {meth : Method} {c : Code} {D : va_G} {cy : Nat → ClassId} {n0 : Nat} {ad : Nat → Nat → Nat} {nT nO : Nat}

def rmX1_init : Room := { frames := 1, cells := 3, slots := 180, locals := 21 }
set_option maxRecDepth 100000 in
set_option maxHeartbeats 8000000 in
theorem c_X1_init (hst : l.stackTraces = false) {B0 : va_W} (h0 : Nat) : CtL l yX1_init (wm yX1_init cX1_init 1 none) rmX1_init 3 180 [.ref h0] D cy n0 B0 [(h0, .inr (1, [.int 0, .int 0, .int 0, .int 0, .int 0, .null, .null, .null]))] (fun L' => ∃ q1 q2 q3 : Nat, L' = [(h0, .inr (1, [.int 0, .int 0, .int 0, .int 0, .int 0, .ref q1, .ref q2, .ref q3])), (q1, .inl (cy 1, 60, .inl (fun _ => 0))), (q2, .inl (cy 1, 60, .inl (fun _ => 0))), (q3, .inl (cy 1, 60, .inl (fun _ => 0)))]) := by
  refine Met.ofW (cc := cX1_init) (maxL := 1) (ret := none) (by decide +kernel) rfl ?_
  intro p e s m args below meth c s₁ B hml hv
  have hi : meth.name = "<init>" := (name_of_methodNamed B.named B.method).1
  obtain ⟨C0, hh, hR, rfl⟩ := entL B hml hst hv
  rw [lg_entry_eq]
  have hl := lv_entry ([.ref h0]) (n := 1) (Nat.le_of_ble_eq_true rfl)
  generalize (lg_sl ([.ref h0]) ++ List.replicate (1 - (lg_sl ([.ref h0])).length) Slot.unset).toArray = ls at hl ⊢
  have hl : lv_has ls 1 [(0, .ref h0)] := hl
  generalize hlo : ([] : List Loc) = locs at hh ⊢
  refine lv_aload_n C0.1.1 C0.1.2.1 dX1_init_0 rfl (lv_at hl 0 rfl) ?_
  refine n_obj C0 w0 w1 w2 hl.1 dX1_init_1 (Nat.le_of_ble_eq_true rfl) (Nat.le_of_ble_eq_true rfl) ?_
  refine lv_aload_n C0.1.1 C0.1.2.1 dX1_init_4 rfl (lv_at hl 0 rfl) ?_
  refine lv_bipush (v := 60) C0.1.1 C0.1.2.1 dX1_init_5 (by decide) ?_
  refine n_newa (atype := .int) (ty := .int) (N := 60) (t := 1) (a0 := (60, .inl (fun _ => 0))) C0 hh w3 rfl rfl (fun _ => rfl) (by decide) (by decide +kernel) (Nat.le_of_ble_eq_true rfl) (Nat.le_of_ble_eq_true rfl) (Nat.le_of_ble_eq_true rfl) dX1_init_7 (fun q1 H hh => ?_)
  have hh : HL D n0 s (B0 ++ [(h0, .inr (1, [.int 0, .int 0, .int 0, .int 0, .int 0, .null, .null, .null])), (q1, .inl (cy 1, 60, .inl (fun _ => 0)))]) H locs := hh
  refine n_putF (k := 0) (v := .ref q1) (T := TX1) (ty := (.array .int)) C0 hi hh rfl rfl hinX1 tyX1 tyX1_ok nmX1 (by decide) w4 rfl rfl (by decide +kernel) rfl rfl (Nat.le_of_ble_eq_true rfl) dX1_init_9 (fun H locs hh => ?_)
  have hh : HL D n0 s (B0 ++ [(h0, .inr (1, [.int 0, .int 0, .int 0, .int 0, .int 0, .ref q1, .null, .null])), (q1, .inl (cy 1, 60, .inl (fun _ => 0)))]) H locs := hh
  refine lv_aload_n C0.1.1 C0.1.2.1 dX1_init_12 rfl (lv_at hl 0 rfl) ?_
  refine lv_bipush (v := 60) C0.1.1 C0.1.2.1 dX1_init_13 (by decide) ?_
  refine n_newa (atype := .int) (ty := .int) (N := 60) (t := 1) (a0 := (60, .inl (fun _ => 0))) C0 hh w3 rfl rfl (fun _ => rfl) (by decide) (by decide +kernel) (Nat.le_of_ble_eq_true rfl) (Nat.le_of_ble_eq_true rfl) (Nat.le_of_ble_eq_true rfl) dX1_init_15 (fun q2 H hh => ?_)
  have hh : HL D n0 s (B0 ++ [(h0, .inr (1, [.int 0, .int 0, .int 0, .int 0, .int 0, .ref q1, .null, .null])), (q1, .inl (cy 1, 60, .inl (fun _ => 0))), (q2, .inl (cy 1, 60, .inl (fun _ => 0)))]) H locs := hh
  refine n_putF (k := 0) (v := .ref q2) (T := TX1) (ty := (.array .int)) C0 hi hh rfl rfl hinX1 tyX1 tyX1_ok nmX1 (by decide) w5 rfl rfl (by decide +kernel) rfl rfl (Nat.le_of_ble_eq_true rfl) dX1_init_17 (fun H locs hh => ?_)
  have hh : HL D n0 s (B0 ++ [(h0, .inr (1, [.int 0, .int 0, .int 0, .int 0, .int 0, .ref q1, .ref q2, .null])), (q1, .inl (cy 1, 60, .inl (fun _ => 0))), (q2, .inl (cy 1, 60, .inl (fun _ => 0)))]) H locs := hh
  refine lv_aload_n C0.1.1 C0.1.2.1 dX1_init_20 rfl (lv_at hl 0 rfl) ?_
  refine lv_bipush (v := 60) C0.1.1 C0.1.2.1 dX1_init_21 (by decide) ?_
  refine n_newa (atype := .int) (ty := .int) (N := 60) (t := 1) (a0 := (60, .inl (fun _ => 0))) C0 hh w3 rfl rfl (fun _ => rfl) (by decide) (by decide +kernel) (Nat.le_of_ble_eq_true rfl) (Nat.le_of_ble_eq_true rfl) (Nat.le_of_ble_eq_true rfl) dX1_init_23 (fun q3 H hh => ?_)
  have hh : HL D n0 s (B0 ++ [(h0, .inr (1, [.int 0, .int 0, .int 0, .int 0, .int 0, .ref q1, .ref q2, .null])), (q1, .inl (cy 1, 60, .inl (fun _ => 0))), (q2, .inl (cy 1, 60, .inl (fun _ => 0))), (q3, .inl (cy 1, 60, .inl (fun _ => 0)))]) H locs := hh
  refine n_putF (k := 0) (v := .ref q3) (T := TX1) (ty := (.array .int)) C0 hi hh rfl rfl hinX1 tyX1 tyX1_ok nmX1 (by decide) w6 rfl rfl (by decide +kernel) rfl rfl (Nat.le_of_ble_eq_true rfl) dX1_init_25 (fun H locs hh => ?_)
  have hh : HL D n0 s (B0 ++ [(h0, .inr (1, [.int 0, .int 0, .int 0, .int 0, .int 0, .ref q1, .ref q2, .ref q3])), (q1, .inl (cy 1, 60, .inl (fun _ => 0))), (q2, .inl (cy 1, 60, .inl (fun _ => 0))), (q3, .inl (cy 1, 60, .inl (fun _ => 0)))]) H locs := hh
  exact n_vret C0 hh ⟨q1, q2, q3, rfl⟩ hR (Nat.le_of_ble_eq_true rfl) (Nat.le_of_ble_eq_true rfl) dX1_init_28
theorem qc0 {R : Room} {s : State} {args : Array Value} (ht : ∀ w ∈ allw, w.before args s = true) (hR : (rmX1_init).frames + 1 ≤ R.frames ∧ 8 + (1 + 11) + (rmX1_init).locals ≤ R.locals) : CallB R s args RX2 30 yX1_init cX1_init 1 none (wm yX1_init cX1_init 1 none) rmX1_init 3 180 0 ∧ yX1_init.name = "<init>" ∧ (Cond.instanceMethod yX1_init).before args s = true := cwI 0 ht (gd_of (fun _ h => h) _ (mC0 w17)) rfl rfl rfl (ht _ w15) (ht _ w16) (ht _ w18) rfl (by decide +kernel) hR
def rmX2_init : Room := { frames := 2, cells := 4, slots := 188, locals := 41 }
set_option maxRecDepth 100000 in
set_option maxHeartbeats 8000000 in
theorem c_X2_init (hst : l.stackTraces = false) {B0 : va_W} (h0 : Nat) (x1 : Int32) (x2 : Int32) (x3 : Int32) (x4 : Int32) (hx1 : ((x1.toUInt32 % 65536).toInt32 = x1)) : CtL l yX2_init (wm yX2_init cX2_init 5 none) rmX2_init 4 188 [.ref h0, .int x1, .int x2, .int x3, .int x4] D cy n0 B0 [(h0, .inr (2, [.int 0, .int 0, .int 0, .int 0, .int 0, .null, .int 0, .int 0, .int 0, .int 0, .int 0, .int 0, .int 0, .int 0]))] (fun L' => ∃ q1 q2 q3 q4 : Nat, L' = [(h0, .inr (2, [.int x1, .int x2, .int x4, .int x3, .int 115, .ref q1, .int 0, .int 0, .int 0, .int 0, .int 0, .int 0, .int 0, .int 0])), (q1, .inr (1, [.int 0, .int 0, .int 0, .int 0, .int 0, .ref q2, .ref q3, .ref q4])), (q2, .inl (cy 1, 60, .inl (fun _ => 0))), (q3, .inl (cy 1, 60, .inl (fun _ => 0))), (q4, .inl (cy 1, 60, .inl (fun _ => 0)))]) := by
  refine Met.ofW (cc := cX2_init) (maxL := 5) (ret := none) (by decide +kernel) rfl ?_
  intro p e s m args below meth c s₁ B hml hv
  have hi : meth.name = "<init>" := (name_of_methodNamed B.named B.method).1
  obtain ⟨C0, hh, hR, rfl⟩ := entL B hml hst hv
  rw [lg_entry_eq]
  have hl := lv_entry ([.ref h0, .int x1, .int x2, .int x3, .int x4]) (n := 5) (Nat.le_of_ble_eq_true rfl)
  generalize (lg_sl ([.ref h0, .int x1, .int x2, .int x3, .int x4]) ++ List.replicate (5 - (lg_sl ([.ref h0, .int x1, .int x2, .int x3, .int x4])).length) Slot.unset).toArray = ls at hl ⊢
  have hl : lv_has ls 5 [(0, .ref h0), (1, .int x1), (2, .int x2), (3, .int x3), (4, .int x4)] := hl
  generalize hlo : ([] : List Loc) = locs at hh ⊢
  refine lv_aload_n C0.1.1 C0.1.2.1 dX2_init_0 rfl (lv_at hl 0 rfl) ?_
  refine n_obj C0 w7 w1 w2 hl.1 dX2_init_1 (Nat.le_of_ble_eq_true rfl) (Nat.le_of_ble_eq_true rfl) ?_
  refine lv_aload_n C0.1.1 C0.1.2.1 dX2_init_4 rfl (lv_at hl 0 rfl) ?_
  refine lv_iload_n C0.1.1 C0.1.2.1 dX2_init_5 rfl (lv_at hl 1 rfl) ?_
  refine n_putF (k := 0) (v := .int x1) (T := TX2) (ty := .char) C0 hi hh rfl rfl hinX2 tyX2 tyX2_ok nmX2 (by decide) w8 rfl rfl (by decide +kernel) (nc_of hx1) (fc_of hx1) (Nat.le_of_ble_eq_true rfl) dX2_init_6 (fun H locs hh => ?_)
  have hh : HL D n0 s (B0 ++ [(h0, .inr (2, [.int x1, .int 0, .int 0, .int 0, .int 0, .null, .int 0, .int 0, .int 0, .int 0, .int 0, .int 0, .int 0, .int 0]))]) H locs := hh
  refine lv_aload_n C0.1.1 C0.1.2.1 dX2_init_9 rfl (lv_at hl 0 rfl) ?_
  refine lv_iload_n C0.1.1 C0.1.2.1 dX2_init_10 rfl (lv_at hl 2 rfl) ?_
  refine n_putF (k := 0) (v := .int x2) (T := TX2) (ty := .int) C0 hi hh rfl rfl hinX2 tyX2 tyX2_ok nmX2 (by decide) w9 rfl rfl (by decide +kernel) rfl rfl (Nat.le_of_ble_eq_true rfl) dX2_init_11 (fun H locs hh => ?_)
  have hh : HL D n0 s (B0 ++ [(h0, .inr (2, [.int x1, .int x2, .int 0, .int 0, .int 0, .null, .int 0, .int 0, .int 0, .int 0, .int 0, .int 0, .int 0, .int 0]))]) H locs := hh
  refine lv_aload_n C0.1.1 C0.1.2.1 dX2_init_14 rfl (lv_at hl 0 rfl) ?_
  refine lv_iload_n C0.1.1 C0.1.2.1 dX2_init_15 rfl (lv_at hl 3 rfl) ?_
  refine n_put (k := 0) (v := .int x3) (T := TX2) (ty := .int) C0 hh rfl rfl hinX2 tyX2 tyX2_ok nmX2 (by decide) w10 rfl (by decide +kernel) rfl rfl (Nat.le_of_ble_eq_true rfl) dX2_init_16 (fun H locs hh => ?_)
  have hh : HL D n0 s (B0 ++ [(h0, .inr (2, [.int x1, .int x2, .int 0, .int x3, .int 0, .null, .int 0, .int 0, .int 0, .int 0, .int 0, .int 0, .int 0, .int 0]))]) H locs := hh
  refine lv_aload_n C0.1.1 C0.1.2.1 dX2_init_19 rfl (lv_at hl 0 rfl) ?_
  refine lv_iload C0.1.1 C0.1.2.1 dX2_init_20 (lv_at hl 4 rfl) ?_
  refine n_putF (k := 0) (v := .int x4) (T := TX2) (ty := .int) C0 hi hh rfl rfl hinX2 tyX2 tyX2_ok nmX2 (by decide) w11 rfl rfl (by decide +kernel) rfl rfl (Nat.le_of_ble_eq_true rfl) dX2_init_22 (fun H locs hh => ?_)
  have hh : HL D n0 s (B0 ++ [(h0, .inr (2, [.int x1, .int x2, .int x4, .int x3, .int 0, .null, .int 0, .int 0, .int 0, .int 0, .int 0, .int 0, .int 0, .int 0]))]) H locs := hh
  refine lv_aload_n C0.1.1 C0.1.2.1 dX2_init_25 rfl (lv_at hl 0 rfl) ?_
  refine lv_bipush (v := 115) C0.1.1 C0.1.2.1 dX2_init_26 (by decide) ?_
  refine n_put (k := 0) (v := .int 115) (T := TX2) (ty := .char) C0 hh rfl rfl hinX2 tyX2 tyX2_ok nmX2 (by decide) w12 rfl (by decide +kernel) rfl rfl (Nat.le_of_ble_eq_true rfl) dX2_init_28 (fun H locs hh => ?_)
  have hh : HL D n0 s (B0 ++ [(h0, .inr (2, [.int x1, .int x2, .int x4, .int x3, .int 115, .null, .int 0, .int 0, .int 0, .int 0, .int 0, .int 0, .int 0, .int 0]))]) H locs := hh
  refine lv_aload_n C0.1.1 C0.1.2.1 dX2_init_31 rfl (lv_at hl 0 rfl) ?_
  refine n_new (T := TX1) (N := 8) (ci := 1) (fs := [.int 0, .int 0, .int 0, .int 0, .int 0, .null, .null, .null]) C0 hh hinX1 tyX1 tyX1_ok w13 w14 w15 rfl dfX1 (Nat.le_of_ble_eq_true rfl) (Nat.le_of_ble_eq_true rfl) dX2_init_32 (fun q1 H hh => ?_)
  have hh : HL D n0 s (B0 ++ [(h0, .inr (2, [.int x1, .int x2, .int x4, .int x3, .int 115, .null, .int 0, .int 0, .int 0, .int 0, .int 0, .int 0, .int 0, .int 0])), (q1, .inr (1, [.int 0, .int 0, .int 0, .int 0, .int 0, .null, .null, .null]))]) H locs := hh
  refine lv_dup C0.1.1 C0.1.2.1 dX2_init_35 rfl ?_
  have hh : HL D n0 s ((B0 ++ [(h0, .inr (2, [.int x1, .int x2, .int x4, .int x3, .int 115, .null, .int 0, .int 0, .int 0, .int 0, .int 0, .int 0, .int 0, .int 0]))]) ++ [(q1, .inr (1, [.int 0, .int 0, .int 0, .int 0, .int 0, .null, .null, .null]))]) H locs := by rw [List.append_assoc]; exact hh
  refine n_call (As := []) (rest := [.ref q1, .ref h0]) C0 hh (c_X1_init C0.2.2.2.2.2.2 q1) (qc0 C0.1.2.2.2.2 ⟨Nat.le_of_ble_eq_true rfl, Nat.le_of_ble_eq_true rfl⟩) rfl hl.1 rfl (lv_room (Nat.le_of_ble_eq_true rfl)) dX2_init_36 ⟨Nat.le_of_ble_eq_true rfl, Nat.le_of_ble_eq_true rfl⟩ (fun L' H locs hp hh => ?_)
  obtain ⟨q2, q3, q4, rfl⟩ := hp
  have hh : HL D n0 s (B0 ++ [(h0, .inr (2, [.int x1, .int x2, .int x4, .int x3, .int 115, .null, .int 0, .int 0, .int 0, .int 0, .int 0, .int 0, .int 0, .int 0])), (q1, .inr (1, [.int 0, .int 0, .int 0, .int 0, .int 0, .ref q2, .ref q3, .ref q4])), (q2, .inl (cy 1, 60, .inl (fun _ => 0))), (q3, .inl (cy 1, 60, .inl (fun _ => 0))), (q4, .inl (cy 1, 60, .inl (fun _ => 0)))]) H locs := by rw [List.append_assoc] at hh; exact hh
  refine n_putF (k := 0) (v := .ref q1) (T := TX2) (ty := (.object RX1)) C0 hi hh rfl rfl hinX2 tyX2 tyX2_ok nmX2 (by decide) w19 rfl rfl (by decide +kernel) rfl rfl (Nat.le_of_ble_eq_true rfl) dX2_init_39 (fun H locs hh => ?_)
  have hh : HL D n0 s (B0 ++ [(h0, .inr (2, [.int x1, .int x2, .int x4, .int x3, .int 115, .ref q1, .int 0, .int 0, .int 0, .int 0, .int 0, .int 0, .int 0, .int 0])), (q1, .inr (1, [.int 0, .int 0, .int 0, .int 0, .int 0, .ref q2, .ref q3, .ref q4])), (q2, .inl (cy 1, 60, .inl (fun _ => 0))), (q3, .inl (cy 1, 60, .inl (fun _ => 0))), (q4, .inl (cy 1, 60, .inl (fun _ => 0)))]) H locs := hh
  exact n_vret C0 hh ⟨q1, q2, q3, q4, rfl⟩ hR (Nat.le_of_ble_eq_true rfl) (Nat.le_of_ble_eq_true rfl) dX2_init_42

def rmX0_init : Room := { frames := 1, cells := 0, slots := 0, locals := 21 }
set_option maxRecDepth 100000 in
set_option maxHeartbeats 8000000 in
theorem c_X0_init (hst : l.stackTraces = false) {B0 : va_W} (h0 : Nat) (x1 : Int32) (x2 : Int32) (x3 : Int32) (hx1 : ((x1.toUInt32 % 65536).toInt32 = x1)) (hx2 : ((x2.toUInt32 % 65536).toInt32 = x2)) : CtL l yX0_init (wm yX0_init cX0_init 4 none) rmX0_init 0 0 [.ref h0, .int x1, .int x2, .int x3] D cy n0 B0 [(h0, .inr (0, [.int 0, .int 0, .int 0, .int 0]))] (fun L' => L' = [(h0, .inr (0, [.int x1, .int x2, .int x3, .int 0]))]) := by
  refine Met.ofW (cc := cX0_init) (maxL := 4) (ret := none) (by decide +kernel) rfl ?_
  intro p e s m args below meth c s₁ B hml hv
  have hi : meth.name = "<init>" := (name_of_methodNamed B.named B.method).1
  obtain ⟨C0, hh, hR, rfl⟩ := entL B hml hst hv
  rw [lg_entry_eq]
  have hl := lv_entry ([.ref h0, .int x1, .int x2, .int x3]) (n := 4) (Nat.le_of_ble_eq_true rfl)
  generalize (lg_sl ([.ref h0, .int x1, .int x2, .int x3]) ++ List.replicate (4 - (lg_sl ([.ref h0, .int x1, .int x2, .int x3])).length) Slot.unset).toArray = ls at hl ⊢
  have hl : lv_has ls 4 [(0, .ref h0), (1, .int x1), (2, .int x2), (3, .int x3)] := hl
  generalize hlo : ([] : List Loc) = locs at hh ⊢
  refine lv_aload_n C0.1.1 C0.1.2.1 dX0_init_0 rfl (lv_at hl 0 rfl) ?_
  refine n_obj C0 w20 w1 w2 hl.1 dX0_init_1 (Nat.le_of_ble_eq_true rfl) (Nat.le_of_ble_eq_true rfl) ?_
  refine lv_aload_n C0.1.1 C0.1.2.1 dX0_init_4 rfl (lv_at hl 0 rfl) ?_
  refine lv_iload_n C0.1.1 C0.1.2.1 dX0_init_5 rfl (lv_at hl 1 rfl) ?_
  refine n_putF (k := 0) (v := .int x1) (T := TX0) (ty := .char) C0 hi hh rfl rfl hinX0 tyX0 tyX0_ok nmX0 (by decide) w21 rfl rfl (by decide +kernel) (nc_of hx1) (fc_of hx1) (Nat.le_of_ble_eq_true rfl) dX0_init_6 (fun H locs hh => ?_)
  have hh : HL D n0 s (B0 ++ [(h0, .inr (0, [.int x1, .int 0, .int 0, .int 0]))]) H locs := hh
  refine lv_aload_n C0.1.1 C0.1.2.1 dX0_init_9 rfl (lv_at hl 0 rfl) ?_
  refine lv_iload_n C0.1.1 C0.1.2.1 dX0_init_10 rfl (lv_at hl 2 rfl) ?_
  refine n_putF (k := 0) (v := .int x2) (T := TX0) (ty := .char) C0 hi hh rfl rfl hinX0 tyX0 tyX0_ok nmX0 (by decide) w22 rfl rfl (by decide +kernel) (nc_of hx2) (fc_of hx2) (Nat.le_of_ble_eq_true rfl) dX0_init_11 (fun H locs hh => ?_)
  have hh : HL D n0 s (B0 ++ [(h0, .inr (0, [.int x1, .int x2, .int 0, .int 0]))]) H locs := hh
  refine lv_aload_n C0.1.1 C0.1.2.1 dX0_init_14 rfl (lv_at hl 0 rfl) ?_
  refine lv_iload_n C0.1.1 C0.1.2.1 dX0_init_15 rfl (lv_at hl 3 rfl) ?_
  refine n_putF (k := 0) (v := .int x3) (T := TX0) (ty := .int) C0 hi hh rfl rfl hinX0 tyX0 tyX0_ok nmX0 (by decide) w23 rfl rfl (by decide +kernel) rfl rfl (Nat.le_of_ble_eq_true rfl) dX0_init_16 (fun H locs hh => ?_)
  have hh : HL D n0 s (B0 ++ [(h0, .inr (0, [.int x1, .int x2, .int x3, .int 0]))]) H locs := hh
  exact n_vret C0 hh rfl hR (Nat.le_of_ble_eq_true rfl) (Nat.le_of_ble_eq_true rfl) dX0_init_19
theorem qc1 {R : Room} {s : State} {args : Array Value} (ht : ∀ w ∈ allw, w.before args s = true) (hR : (rmX1_init).frames + 1 ≤ R.frames ∧ 8 + (1 + 11) + (rmX1_init).locals ≤ R.locals) : CallB R s args RX3 27 yX1_init cX1_init 1 none (wm yX1_init cX1_init 1 none) rmX1_init 3 180 0 ∧ yX1_init.name = "<init>" ∧ (Cond.instanceMethod yX1_init).before args s = true := cwI 0 ht (gd_of (fun _ h => h) _ (mC0 w17)) rfl rfl rfl (ht _ w15) (ht _ w31) (ht _ w18) rfl (by decide +kernel) hR
def rmX3_init : Room := { frames := 2, cells := 6, slots := 202, locals := 41 }
set_option maxRecDepth 100000 in
set_option maxHeartbeats 8000000 in
theorem c_X3_init (hst : l.stackTraces = false) {B0 : va_W} (h0 : Nat) : CtL l yX3_init (wm yX3_init cX3_init 1 none) rmX3_init 6 202 [.ref h0] D cy n0 B0 [(h0, .inr (3, [.null, .int 0, .null, .int 0, .long 0, .null]))] (fun L' => ∃ q1 q2 q3 q4 q5 q6 : Nat, L' = [(h0, .inr (3, [.ref q1, .int 0, .ref q2, .int 0, .long 1, .ref q3])), (q1, .inl (cy 4, 8, .inr (.inr (.inr (.inr (fun _ => none)))))), (q2, .inl (cy 3, 6, .inr (.inr (.inr (.inr (fun _ => none)))))), (q3, .inr (1, [.int 0, .int 0, .int 0, .int 0, .int 0, .ref q4, .ref q5, .ref q6])), (q4, .inl (cy 1, 60, .inl (fun _ => 0))), (q5, .inl (cy 1, 60, .inl (fun _ => 0))), (q6, .inl (cy 1, 60, .inl (fun _ => 0)))]) := by
  refine Met.ofW (cc := cX3_init) (maxL := 1) (ret := none) (by decide +kernel) rfl ?_
  intro p e s m args below meth c s₁ B hml hv
  have hi : meth.name = "<init>" := (name_of_methodNamed B.named B.method).1
  obtain ⟨C0, hh, hR, rfl⟩ := entL B hml hst hv
  rw [lg_entry_eq]
  have hl := lv_entry ([.ref h0]) (n := 1) (Nat.le_of_ble_eq_true rfl)
  generalize (lg_sl ([.ref h0]) ++ List.replicate (1 - (lg_sl ([.ref h0])).length) Slot.unset).toArray = ls at hl ⊢
  have hl : lv_has ls 1 [(0, .ref h0)] := hl
  generalize hlo : ([] : List Loc) = locs at hh ⊢
  refine lv_aload_n C0.1.1 C0.1.2.1 dX3_init_0 rfl (lv_at hl 0 rfl) ?_
  refine n_obj C0 w24 w1 w2 hl.1 dX3_init_1 (Nat.le_of_ble_eq_true rfl) (Nat.le_of_ble_eq_true rfl) ?_
  refine lv_aload_n C0.1.1 C0.1.2.1 dX3_init_4 rfl (lv_at hl 0 rfl) ?_
  refine lv_bipush (v := 8) C0.1.1 C0.1.2.1 dX3_init_5 (by decide) ?_
  refine n_newq (C := RX2) (N := 8) (t := 4) C0 hh w25 C0.2.2.2.2.2.1.2.2.2.1 rfl (by decide) (by decide +kernel) (Nat.le_of_ble_eq_true rfl) (Nat.le_of_ble_eq_true rfl) (Nat.le_of_ble_eq_true rfl) dX3_init_7 (fun q1 H hh => ?_)
  have hh : HL D n0 s (B0 ++ [(h0, .inr (3, [.null, .int 0, .null, .int 0, .long 0, .null])), (q1, .inl (cy 4, 8, .inr (.inr (.inr (.inr (fun _ => none))))))]) H locs := hh
  refine n_putF (k := 0) (v := .ref q1) (T := TX3) (ty := (.array (.object RX2))) C0 hi hh rfl rfl hinX3 tyX3 tyX3_ok nmX3 (by decide) w26 rfl rfl (by decide +kernel) rfl rfl (Nat.le_of_ble_eq_true rfl) dX3_init_10 (fun H locs hh => ?_)
  have hh : HL D n0 s (B0 ++ [(h0, .inr (3, [.ref q1, .int 0, .null, .int 0, .long 0, .null])), (q1, .inl (cy 4, 8, .inr (.inr (.inr (.inr (fun _ => none))))))]) H locs := hh
  refine lv_aload_n C0.1.1 C0.1.2.1 dX3_init_13 rfl (lv_at hl 0 rfl) ?_
  refine lv_bipush (v := 6) C0.1.1 C0.1.2.1 dX3_init_14 (by decide) ?_
  refine n_newq (C := RX0) (N := 6) (t := 3) C0 hh w27 C0.2.2.2.2.2.1.2.2.2.2 rfl (by decide) (by decide +kernel) (Nat.le_of_ble_eq_true rfl) (Nat.le_of_ble_eq_true rfl) (Nat.le_of_ble_eq_true rfl) dX3_init_16 (fun q2 H hh => ?_)
  have hh : HL D n0 s (B0 ++ [(h0, .inr (3, [.ref q1, .int 0, .null, .int 0, .long 0, .null])), (q1, .inl (cy 4, 8, .inr (.inr (.inr (.inr (fun _ => none)))))), (q2, .inl (cy 3, 6, .inr (.inr (.inr (.inr (fun _ => none))))))]) H locs := hh
  refine n_putF (k := 0) (v := .ref q2) (T := TX3) (ty := (.array (.object RX0))) C0 hi hh rfl rfl hinX3 tyX3 tyX3_ok nmX3 (by decide) w28 rfl rfl (by decide +kernel) rfl rfl (Nat.le_of_ble_eq_true rfl) dX3_init_19 (fun H locs hh => ?_)
  have hh : HL D n0 s (B0 ++ [(h0, .inr (3, [.ref q1, .int 0, .ref q2, .int 0, .long 0, .null])), (q1, .inl (cy 4, 8, .inr (.inr (.inr (.inr (fun _ => none)))))), (q2, .inl (cy 3, 6, .inr (.inr (.inr (.inr (fun _ => none))))))]) H locs := hh
  refine lv_aload_n C0.1.1 C0.1.2.1 dX3_init_22 rfl (lv_at hl 0 rfl) ?_
  refine lv_lconst (v := 1) C0.1.1 C0.1.2.1 dX3_init_23 (by decide) ?_
  refine n_put (k := 0) (v := .long 1) (T := TX3) (ty := .long) C0 hh rfl rfl hinX3 tyX3 tyX3_ok nmX3 (by decide) w29 rfl (by decide +kernel) rfl rfl (Nat.le_of_ble_eq_true rfl) dX3_init_24 (fun H locs hh => ?_)
  have hh : HL D n0 s (B0 ++ [(h0, .inr (3, [.ref q1, .int 0, .ref q2, .int 0, .long 1, .null])), (q1, .inl (cy 4, 8, .inr (.inr (.inr (.inr (fun _ => none)))))), (q2, .inl (cy 3, 6, .inr (.inr (.inr (.inr (fun _ => none))))))]) H locs := hh
  refine lv_aload_n C0.1.1 C0.1.2.1 dX3_init_27 rfl (lv_at hl 0 rfl) ?_
  refine n_new (T := TX1) (N := 8) (ci := 1) (fs := [.int 0, .int 0, .int 0, .int 0, .int 0, .null, .null, .null]) C0 hh hinX1 tyX1 tyX1_ok w30 w14 w15 rfl dfX1 (Nat.le_of_ble_eq_true rfl) (Nat.le_of_ble_eq_true rfl) dX3_init_28 (fun q3 H hh => ?_)
  have hh : HL D n0 s (B0 ++ [(h0, .inr (3, [.ref q1, .int 0, .ref q2, .int 0, .long 1, .null])), (q1, .inl (cy 4, 8, .inr (.inr (.inr (.inr (fun _ => none)))))), (q2, .inl (cy 3, 6, .inr (.inr (.inr (.inr (fun _ => none)))))), (q3, .inr (1, [.int 0, .int 0, .int 0, .int 0, .int 0, .null, .null, .null]))]) H locs := hh
  refine lv_dup C0.1.1 C0.1.2.1 dX3_init_31 rfl ?_
  have hh : HL D n0 s ((B0 ++ [(h0, .inr (3, [.ref q1, .int 0, .ref q2, .int 0, .long 1, .null])), (q1, .inl (cy 4, 8, .inr (.inr (.inr (.inr (fun _ => none)))))), (q2, .inl (cy 3, 6, .inr (.inr (.inr (.inr (fun _ => none))))))]) ++ [(q3, .inr (1, [.int 0, .int 0, .int 0, .int 0, .int 0, .null, .null, .null]))]) H locs := by rw [List.append_assoc]; exact hh
  refine n_call (As := []) (rest := [.ref q3, .ref h0]) C0 hh (c_X1_init C0.2.2.2.2.2.2 q3) (qc1 C0.1.2.2.2.2 ⟨Nat.le_of_ble_eq_true rfl, Nat.le_of_ble_eq_true rfl⟩) rfl hl.1 rfl (lv_room (Nat.le_of_ble_eq_true rfl)) dX3_init_32 ⟨Nat.le_of_ble_eq_true rfl, Nat.le_of_ble_eq_true rfl⟩ (fun L' H locs hp hh => ?_)
  obtain ⟨q4, q5, q6, rfl⟩ := hp
  have hh : HL D n0 s (B0 ++ [(h0, .inr (3, [.ref q1, .int 0, .ref q2, .int 0, .long 1, .null])), (q1, .inl (cy 4, 8, .inr (.inr (.inr (.inr (fun _ => none)))))), (q2, .inl (cy 3, 6, .inr (.inr (.inr (.inr (fun _ => none)))))), (q3, .inr (1, [.int 0, .int 0, .int 0, .int 0, .int 0, .ref q4, .ref q5, .ref q6])), (q4, .inl (cy 1, 60, .inl (fun _ => 0))), (q5, .inl (cy 1, 60, .inl (fun _ => 0))), (q6, .inl (cy 1, 60, .inl (fun _ => 0)))]) H locs := by rw [List.append_assoc] at hh; exact hh
  refine n_putF (k := 0) (v := .ref q3) (T := TX3) (ty := (.object RX1)) C0 hi hh rfl rfl hinX3 tyX3 tyX3_ok nmX3 (by decide) w32 rfl rfl (by decide +kernel) rfl rfl (Nat.le_of_ble_eq_true rfl) dX3_init_35 (fun H locs hh => ?_)
  have hh : HL D n0 s (B0 ++ [(h0, .inr (3, [.ref q1, .int 0, .ref q2, .int 0, .long 1, .ref q3])), (q1, .inl (cy 4, 8, .inr (.inr (.inr (.inr (fun _ => none)))))), (q2, .inl (cy 3, 6, .inr (.inr (.inr (.inr (fun _ => none)))))), (q3, .inr (1, [.int 0, .int 0, .int 0, .int 0, .int 0, .ref q4, .ref q5, .ref q6])), (q4, .inl (cy 1, 60, .inl (fun _ => 0))), (q5, .inl (cy 1, 60, .inl (fun _ => 0))), (q6, .inl (cy 1, 60, .inl (fun _ => 0)))]) H locs := hh
  exact n_vret C0 hh ⟨q1, q2, q3, q4, q5, q6, rfl⟩ hR (Nat.le_of_ble_eq_true rfl) (Nat.le_of_ble_eq_true rfl) dX3_init_38

def rmX4_init : Room := { frames := 1, cells := 24, slots := 1128, locals := 21 }
set_option maxRecDepth 100000 in
set_option maxHeartbeats 8000000 in
theorem c_X4_init (hst : l.stackTraces = false) {B0 : va_W} (h0 : Nat) : CtL l yX4_init (wm yX4_init cX4_init 1 none) rmX4_init 24 1128 [.ref h0] D cy n0 B0 [(h0, .inr (4, [.int 0, .int 0, .null, .null, .null, .null, .null, .null, .null, .null, .null, .null, .null, .null, .null, .null, .null, .null, .null, .null, .null, .null, .int 0, .int 0, .null, .null, .null, .null]))] (fun L' => ∃ q1 q2 q3 q4 q5 q6 q7 q8 q9 q10 q11 q12 q13 q14 q15 q16 q17 q18 q19 q20 q21 q22 q23 q24 : Nat, L' = [(h0, .inr (4, [.int 0, .int 0, .ref q1, .ref q2, .ref q3, .ref q4, .ref q5, .ref q6, .ref q7, .ref q8, .ref q9, .ref q10, .ref q11, .ref q12, .ref q13, .ref q14, .ref q15, .ref q16, .ref q17, .ref q18, .ref q19, .ref q20, .int 1, .int 0, .ref q21, .ref q22, .ref q23, .ref q24])), (q1, .inl (cy 0, 8, .inl (fun _ => 0))), (q2, .inl (cy 0, 8, .inl (fun _ => 0))), (q3, .inl (cy 0, 8, .inl (fun _ => 0))), (q4, .inl (cy 1, 8, .inl (fun _ => 0))), (q5, .inl (cy 1, 8, .inl (fun _ => 0))), (q6, .inl (cy 1, 8, .inl (fun _ => 0))), (q7, .inl (cy 1, 8, .inl (fun _ => 0))), (q8, .inl (cy 1, 8, .inl (fun _ => 0))), (q9, .inl (cy 1, 8, .inl (fun _ => 0))), (q10, .inl (cy 1, 8, .inl (fun _ => 0))), (q11, .inl (cy 1, 8, .inl (fun _ => 0))), (q12, .inl (cy 1, 8, .inl (fun _ => 0))), (q13, .inl (cy 1, 8, .inl (fun _ => 0))), (q14, .inl (cy 1, 8, .inl (fun _ => 0))), (q15, .inl (cy 1, 8, .inl (fun _ => 0))), (q16, .inl (cy 2, 8, .inl (fun _ => 0))), (q17, .inl (cy 2, 8, .inl (fun _ => 0))), (q18, .inl (cy 2, 8, .inl (fun _ => 0))), (q19, .inl (cy 1, 480, .inl (fun _ => 0))), (q20, .inl (cy 1, 480, .inl (fun _ => 0))), (q21, .inl (cy 0, 6, .inl (fun _ => 0))), (q22, .inl (cy 0, 6, .inl (fun _ => 0))), (q23, .inl (cy 1, 6, .inl (fun _ => 0))), (q24, .inl (cy 1, 6, .inl (fun _ => 0)))]) := by
  refine Met.ofW (cc := cX4_init) (maxL := 1) (ret := none) (by decide +kernel) rfl ?_
  intro p e s m args below meth c s₁ B hml hv
  have hi : meth.name = "<init>" := (name_of_methodNamed B.named B.method).1
  obtain ⟨C0, hh, hR, rfl⟩ := entL B hml hst hv
  rw [lg_entry_eq]
  have hl := lv_entry ([.ref h0]) (n := 1) (Nat.le_of_ble_eq_true rfl)
  generalize (lg_sl ([.ref h0]) ++ List.replicate (1 - (lg_sl ([.ref h0])).length) Slot.unset).toArray = ls at hl ⊢
  have hl : lv_has ls 1 [(0, .ref h0)] := hl
  generalize hlo : ([] : List Loc) = locs at hh ⊢
  refine lv_aload_n C0.1.1 C0.1.2.1 dX4_init_0 rfl (lv_at hl 0 rfl) ?_
  refine n_obj C0 w33 w1 w2 hl.1 dX4_init_1 (Nat.le_of_ble_eq_true rfl) (Nat.le_of_ble_eq_true rfl) ?_
  refine lv_aload_n C0.1.1 C0.1.2.1 dX4_init_4 rfl (lv_at hl 0 rfl) ?_
  refine lv_bipush (v := 8) C0.1.1 C0.1.2.1 dX4_init_5 (by decide) ?_
  refine n_newa (atype := .char) (ty := .char) (N := 8) (t := 0) (a0 := (8, .inl (fun _ => 0))) C0 hh w34 rfl rfl (fun _ => rfl) (by decide) (by decide +kernel) (Nat.le_of_ble_eq_true rfl) (Nat.le_of_ble_eq_true rfl) (Nat.le_of_ble_eq_true rfl) dX4_init_7 (fun q1 H hh => ?_)
  have hh : HL D n0 s (B0 ++ [(h0, .inr (4, [.int 0, .int 0, .null, .null, .null, .null, .null, .null, .null, .null, .null, .null, .null, .null, .null, .null, .null, .null, .null, .null, .null, .null, .int 0, .int 0, .null, .null, .null, .null])), (q1, .inl (cy 0, 8, .inl (fun _ => 0)))]) H locs := hh
  refine n_putF (k := 0) (v := .ref q1) (T := TX4) (ty := (.array .char)) C0 hi hh rfl rfl hinX4 tyX4 tyX4_ok nmX4 (by decide) w35 rfl rfl (by decide +kernel) rfl rfl (Nat.le_of_ble_eq_true rfl) dX4_init_9 (fun H locs hh => ?_)
  have hh : HL D n0 s (B0 ++ [(h0, .inr (4, [.int 0, .int 0, .ref q1, .null, .null, .null, .null, .null, .null, .null, .null, .null, .null, .null, .null, .null, .null, .null, .null, .null, .null, .null, .int 0, .int 0, .null, .null, .null, .null])), (q1, .inl (cy 0, 8, .inl (fun _ => 0)))]) H locs := hh
  refine lv_aload_n C0.1.1 C0.1.2.1 dX4_init_12 rfl (lv_at hl 0 rfl) ?_
  refine lv_bipush (v := 8) C0.1.1 C0.1.2.1 dX4_init_13 (by decide) ?_
  refine n_newa (atype := .char) (ty := .char) (N := 8) (t := 0) (a0 := (8, .inl (fun _ => 0))) C0 hh w34 rfl rfl (fun _ => rfl) (by decide) (by decide +kernel) (Nat.le_of_ble_eq_true rfl) (Nat.le_of_ble_eq_true rfl) (Nat.le_of_ble_eq_true rfl) dX4_init_15 (fun q2 H hh => ?_)
  have hh : HL D n0 s (B0 ++ [(h0, .inr (4, [.int 0, .int 0, .ref q1, .null, .null, .null, .null, .null, .null, .null, .null, .null, .null, .null, .null, .null, .null, .null, .null, .null, .null, .null, .int 0, .int 0, .null, .null, .null, .null])), (q1, .inl (cy 0, 8, .inl (fun _ => 0))), (q2, .inl (cy 0, 8, .inl (fun _ => 0)))]) H locs := hh
  refine n_putF (k := 0) (v := .ref q2) (T := TX4) (ty := (.array .char)) C0 hi hh rfl rfl hinX4 tyX4 tyX4_ok nmX4 (by decide) w36 rfl rfl (by decide +kernel) rfl rfl (Nat.le_of_ble_eq_true rfl) dX4_init_17 (fun H locs hh => ?_)
  have hh : HL D n0 s (B0 ++ [(h0, .inr (4, [.int 0, .int 0, .ref q1, .ref q2, .null, .null, .null, .null, .null, .null, .null, .null, .null, .null, .null, .null, .null, .null, .null, .null, .null, .null, .int 0, .int 0, .null, .null, .null, .null])), (q1, .inl (cy 0, 8, .inl (fun _ => 0))), (q2, .inl (cy 0, 8, .inl (fun _ => 0)))]) H locs := hh
  refine lv_aload_n C0.1.1 C0.1.2.1 dX4_init_20 rfl (lv_at hl 0 rfl) ?_
  refine lv_bipush (v := 8) C0.1.1 C0.1.2.1 dX4_init_21 (by decide) ?_
  refine n_newa (atype := .char) (ty := .char) (N := 8) (t := 0) (a0 := (8, .inl (fun _ => 0))) C0 hh w34 rfl rfl (fun _ => rfl) (by decide) (by decide +kernel) (Nat.le_of_ble_eq_true rfl) (Nat.le_of_ble_eq_true rfl) (Nat.le_of_ble_eq_true rfl) dX4_init_23 (fun q3 H hh => ?_)
  have hh : HL D n0 s (B0 ++ [(h0, .inr (4, [.int 0, .int 0, .ref q1, .ref q2, .null, .null, .null, .null, .null, .null, .null, .null, .null, .null, .null, .null, .null, .null, .null, .null, .null, .null, .int 0, .int 0, .null, .null, .null, .null])), (q1, .inl (cy 0, 8, .inl (fun _ => 0))), (q2, .inl (cy 0, 8, .inl (fun _ => 0))), (q3, .inl (cy 0, 8, .inl (fun _ => 0)))]) H locs := hh
  refine n_putF (k := 0) (v := .ref q3) (T := TX4) (ty := (.array .char)) C0 hi hh rfl rfl hinX4 tyX4 tyX4_ok nmX4 (by decide) w37 rfl rfl (by decide +kernel) rfl rfl (Nat.le_of_ble_eq_true rfl) dX4_init_25 (fun H locs hh => ?_)
  have hh : HL D n0 s (B0 ++ [(h0, .inr (4, [.int 0, .int 0, .ref q1, .ref q2, .ref q3, .null, .null, .null, .null, .null, .null, .null, .null, .null, .null, .null, .null, .null, .null, .null, .null, .null, .int 0, .int 0, .null, .null, .null, .null])), (q1, .inl (cy 0, 8, .inl (fun _ => 0))), (q2, .inl (cy 0, 8, .inl (fun _ => 0))), (q3, .inl (cy 0, 8, .inl (fun _ => 0)))]) H locs := hh
  refine lv_aload_n C0.1.1 C0.1.2.1 dX4_init_28 rfl (lv_at hl 0 rfl) ?_
  refine lv_bipush (v := 8) C0.1.1 C0.1.2.1 dX4_init_29 (by decide) ?_
  refine n_newa (atype := .int) (ty := .int) (N := 8) (t := 1) (a0 := (8, .inl (fun _ => 0))) C0 hh w3 rfl rfl (fun _ => rfl) (by decide) (by decide +kernel) (Nat.le_of_ble_eq_true rfl) (Nat.le_of_ble_eq_true rfl) (Nat.le_of_ble_eq_true rfl) dX4_init_31 (fun q4 H hh => ?_)
  have hh : HL D n0 s (B0 ++ [(h0, .inr (4, [.int 0, .int 0, .ref q1, .ref q2, .ref q3, .null, .null, .null, .null, .null, .null, .null, .null, .null, .null, .null, .null, .null, .null, .null, .null, .null, .int 0, .int 0, .null, .null, .null, .null])), (q1, .inl (cy 0, 8, .inl (fun _ => 0))), (q2, .inl (cy 0, 8, .inl (fun _ => 0))), (q3, .inl (cy 0, 8, .inl (fun _ => 0))), (q4, .inl (cy 1, 8, .inl (fun _ => 0)))]) H locs := hh
  refine n_putF (k := 0) (v := .ref q4) (T := TX4) (ty := (.array .int)) C0 hi hh rfl rfl hinX4 tyX4 tyX4_ok nmX4 (by decide) w38 rfl rfl (by decide +kernel) rfl rfl (Nat.le_of_ble_eq_true rfl) dX4_init_33 (fun H locs hh => ?_)
  have hh : HL D n0 s (B0 ++ [(h0, .inr (4, [.int 0, .int 0, .ref q1, .ref q2, .ref q3, .ref q4, .null, .null, .null, .null, .null, .null, .null, .null, .null, .null, .null, .null, .null, .null, .null, .null, .int 0, .int 0, .null, .null, .null, .null])), (q1, .inl (cy 0, 8, .inl (fun _ => 0))), (q2, .inl (cy 0, 8, .inl (fun _ => 0))), (q3, .inl (cy 0, 8, .inl (fun _ => 0))), (q4, .inl (cy 1, 8, .inl (fun _ => 0)))]) H locs := hh
  refine lv_aload_n C0.1.1 C0.1.2.1 dX4_init_36 rfl (lv_at hl 0 rfl) ?_
  refine lv_bipush (v := 8) C0.1.1 C0.1.2.1 dX4_init_37 (by decide) ?_
  refine n_newa (atype := .int) (ty := .int) (N := 8) (t := 1) (a0 := (8, .inl (fun _ => 0))) C0 hh w3 rfl rfl (fun _ => rfl) (by decide) (by decide +kernel) (Nat.le_of_ble_eq_true rfl) (Nat.le_of_ble_eq_true rfl) (Nat.le_of_ble_eq_true rfl) dX4_init_39 (fun q5 H hh => ?_)
  have hh : HL D n0 s (B0 ++ [(h0, .inr (4, [.int 0, .int 0, .ref q1, .ref q2, .ref q3, .ref q4, .null, .null, .null, .null, .null, .null, .null, .null, .null, .null, .null, .null, .null, .null, .null, .null, .int 0, .int 0, .null, .null, .null, .null])), (q1, .inl (cy 0, 8, .inl (fun _ => 0))), (q2, .inl (cy 0, 8, .inl (fun _ => 0))), (q3, .inl (cy 0, 8, .inl (fun _ => 0))), (q4, .inl (cy 1, 8, .inl (fun _ => 0))), (q5, .inl (cy 1, 8, .inl (fun _ => 0)))]) H locs := hh
  refine n_putF (k := 0) (v := .ref q5) (T := TX4) (ty := (.array .int)) C0 hi hh rfl rfl hinX4 tyX4 tyX4_ok nmX4 (by decide) w39 rfl rfl (by decide +kernel) rfl rfl (Nat.le_of_ble_eq_true rfl) dX4_init_41 (fun H locs hh => ?_)
  have hh : HL D n0 s (B0 ++ [(h0, .inr (4, [.int 0, .int 0, .ref q1, .ref q2, .ref q3, .ref q4, .ref q5, .null, .null, .null, .null, .null, .null, .null, .null, .null, .null, .null, .null, .null, .null, .null, .int 0, .int 0, .null, .null, .null, .null])), (q1, .inl (cy 0, 8, .inl (fun _ => 0))), (q2, .inl (cy 0, 8, .inl (fun _ => 0))), (q3, .inl (cy 0, 8, .inl (fun _ => 0))), (q4, .inl (cy 1, 8, .inl (fun _ => 0))), (q5, .inl (cy 1, 8, .inl (fun _ => 0)))]) H locs := hh
  refine lv_aload_n C0.1.1 C0.1.2.1 dX4_init_44 rfl (lv_at hl 0 rfl) ?_
  refine lv_bipush (v := 8) C0.1.1 C0.1.2.1 dX4_init_45 (by decide) ?_
  refine n_newa (atype := .int) (ty := .int) (N := 8) (t := 1) (a0 := (8, .inl (fun _ => 0))) C0 hh w3 rfl rfl (fun _ => rfl) (by decide) (by decide +kernel) (Nat.le_of_ble_eq_true rfl) (Nat.le_of_ble_eq_true rfl) (Nat.le_of_ble_eq_true rfl) dX4_init_47 (fun q6 H hh => ?_)
  have hh : HL D n0 s (B0 ++ [(h0, .inr (4, [.int 0, .int 0, .ref q1, .ref q2, .ref q3, .ref q4, .ref q5, .null, .null, .null, .null, .null, .null, .null, .null, .null, .null, .null, .null, .null, .null, .null, .int 0, .int 0, .null, .null, .null, .null])), (q1, .inl (cy 0, 8, .inl (fun _ => 0))), (q2, .inl (cy 0, 8, .inl (fun _ => 0))), (q3, .inl (cy 0, 8, .inl (fun _ => 0))), (q4, .inl (cy 1, 8, .inl (fun _ => 0))), (q5, .inl (cy 1, 8, .inl (fun _ => 0))), (q6, .inl (cy 1, 8, .inl (fun _ => 0)))]) H locs := hh
  refine n_putF (k := 0) (v := .ref q6) (T := TX4) (ty := (.array .int)) C0 hi hh rfl rfl hinX4 tyX4 tyX4_ok nmX4 (by decide) w40 rfl rfl (by decide +kernel) rfl rfl (Nat.le_of_ble_eq_true rfl) dX4_init_49 (fun H locs hh => ?_)
  have hh : HL D n0 s (B0 ++ [(h0, .inr (4, [.int 0, .int 0, .ref q1, .ref q2, .ref q3, .ref q4, .ref q5, .ref q6, .null, .null, .null, .null, .null, .null, .null, .null, .null, .null, .null, .null, .null, .null, .int 0, .int 0, .null, .null, .null, .null])), (q1, .inl (cy 0, 8, .inl (fun _ => 0))), (q2, .inl (cy 0, 8, .inl (fun _ => 0))), (q3, .inl (cy 0, 8, .inl (fun _ => 0))), (q4, .inl (cy 1, 8, .inl (fun _ => 0))), (q5, .inl (cy 1, 8, .inl (fun _ => 0))), (q6, .inl (cy 1, 8, .inl (fun _ => 0)))]) H locs := hh
  refine lv_aload_n C0.1.1 C0.1.2.1 dX4_init_52 rfl (lv_at hl 0 rfl) ?_
  refine lv_bipush (v := 8) C0.1.1 C0.1.2.1 dX4_init_53 (by decide) ?_
  refine n_newa (atype := .int) (ty := .int) (N := 8) (t := 1) (a0 := (8, .inl (fun _ => 0))) C0 hh w3 rfl rfl (fun _ => rfl) (by decide) (by decide +kernel) (Nat.le_of_ble_eq_true rfl) (Nat.le_of_ble_eq_true rfl) (Nat.le_of_ble_eq_true rfl) dX4_init_55 (fun q7 H hh => ?_)
  have hh : HL D n0 s (B0 ++ [(h0, .inr (4, [.int 0, .int 0, .ref q1, .ref q2, .ref q3, .ref q4, .ref q5, .ref q6, .null, .null, .null, .null, .null, .null, .null, .null, .null, .null, .null, .null, .null, .null, .int 0, .int 0, .null, .null, .null, .null])), (q1, .inl (cy 0, 8, .inl (fun _ => 0))), (q2, .inl (cy 0, 8, .inl (fun _ => 0))), (q3, .inl (cy 0, 8, .inl (fun _ => 0))), (q4, .inl (cy 1, 8, .inl (fun _ => 0))), (q5, .inl (cy 1, 8, .inl (fun _ => 0))), (q6, .inl (cy 1, 8, .inl (fun _ => 0))), (q7, .inl (cy 1, 8, .inl (fun _ => 0)))]) H locs := hh
  refine n_putF (k := 0) (v := .ref q7) (T := TX4) (ty := (.array .int)) C0 hi hh rfl rfl hinX4 tyX4 tyX4_ok nmX4 (by decide) w41 rfl rfl (by decide +kernel) rfl rfl (Nat.le_of_ble_eq_true rfl) dX4_init_57 (fun H locs hh => ?_)
  have hh : HL D n0 s (B0 ++ [(h0, .inr (4, [.int 0, .int 0, .ref q1, .ref q2, .ref q3, .ref q4, .ref q5, .ref q6, .ref q7, .null, .null, .null, .null, .null, .null, .null, .null, .null, .null, .null, .null, .null, .int 0, .int 0, .null, .null, .null, .null])), (q1, .inl (cy 0, 8, .inl (fun _ => 0))), (q2, .inl (cy 0, 8, .inl (fun _ => 0))), (q3, .inl (cy 0, 8, .inl (fun _ => 0))), (q4, .inl (cy 1, 8, .inl (fun _ => 0))), (q5, .inl (cy 1, 8, .inl (fun _ => 0))), (q6, .inl (cy 1, 8, .inl (fun _ => 0))), (q7, .inl (cy 1, 8, .inl (fun _ => 0)))]) H locs := hh
  refine lv_aload_n C0.1.1 C0.1.2.1 dX4_init_60 rfl (lv_at hl 0 rfl) ?_
  refine lv_bipush (v := 8) C0.1.1 C0.1.2.1 dX4_init_61 (by decide) ?_
  refine n_newa (atype := .int) (ty := .int) (N := 8) (t := 1) (a0 := (8, .inl (fun _ => 0))) C0 hh w3 rfl rfl (fun _ => rfl) (by decide) (by decide +kernel) (Nat.le_of_ble_eq_true rfl) (Nat.le_of_ble_eq_true rfl) (Nat.le_of_ble_eq_true rfl) dX4_init_63 (fun q8 H hh => ?_)
  have hh : HL D n0 s (B0 ++ [(h0, .inr (4, [.int 0, .int 0, .ref q1, .ref q2, .ref q3, .ref q4, .ref q5, .ref q6, .ref q7, .null, .null, .null, .null, .null, .null, .null, .null, .null, .null, .null, .null, .null, .int 0, .int 0, .null, .null, .null, .null])), (q1, .inl (cy 0, 8, .inl (fun _ => 0))), (q2, .inl (cy 0, 8, .inl (fun _ => 0))), (q3, .inl (cy 0, 8, .inl (fun _ => 0))), (q4, .inl (cy 1, 8, .inl (fun _ => 0))), (q5, .inl (cy 1, 8, .inl (fun _ => 0))), (q6, .inl (cy 1, 8, .inl (fun _ => 0))), (q7, .inl (cy 1, 8, .inl (fun _ => 0))), (q8, .inl (cy 1, 8, .inl (fun _ => 0)))]) H locs := hh
  refine n_putF (k := 0) (v := .ref q8) (T := TX4) (ty := (.array .int)) C0 hi hh rfl rfl hinX4 tyX4 tyX4_ok nmX4 (by decide) w42 rfl rfl (by decide +kernel) rfl rfl (Nat.le_of_ble_eq_true rfl) dX4_init_65 (fun H locs hh => ?_)
  have hh : HL D n0 s (B0 ++ [(h0, .inr (4, [.int 0, .int 0, .ref q1, .ref q2, .ref q3, .ref q4, .ref q5, .ref q6, .ref q7, .ref q8, .null, .null, .null, .null, .null, .null, .null, .null, .null, .null, .null, .null, .int 0, .int 0, .null, .null, .null, .null])), (q1, .inl (cy 0, 8, .inl (fun _ => 0))), (q2, .inl (cy 0, 8, .inl (fun _ => 0))), (q3, .inl (cy 0, 8, .inl (fun _ => 0))), (q4, .inl (cy 1, 8, .inl (fun _ => 0))), (q5, .inl (cy 1, 8, .inl (fun _ => 0))), (q6, .inl (cy 1, 8, .inl (fun _ => 0))), (q7, .inl (cy 1, 8, .inl (fun _ => 0))), (q8, .inl (cy 1, 8, .inl (fun _ => 0)))]) H locs := hh
  refine lv_aload_n C0.1.1 C0.1.2.1 dX4_init_68 rfl (lv_at hl 0 rfl) ?_
  refine lv_bipush (v := 8) C0.1.1 C0.1.2.1 dX4_init_69 (by decide) ?_
  refine n_newa (atype := .int) (ty := .int) (N := 8) (t := 1) (a0 := (8, .inl (fun _ => 0))) C0 hh w3 rfl rfl (fun _ => rfl) (by decide) (by decide +kernel) (Nat.le_of_ble_eq_true rfl) (Nat.le_of_ble_eq_true rfl) (Nat.le_of_ble_eq_true rfl) dX4_init_71 (fun q9 H hh => ?_)
  have hh : HL D n0 s (B0 ++ [(h0, .inr (4, [.int 0, .int 0, .ref q1, .ref q2, .ref q3, .ref q4, .ref q5, .ref q6, .ref q7, .ref q8, .null, .null, .null, .null, .null, .null, .null, .null, .null, .null, .null, .null, .int 0, .int 0, .null, .null, .null, .null])), (q1, .inl (cy 0, 8, .inl (fun _ => 0))), (q2, .inl (cy 0, 8, .inl (fun _ => 0))), (q3, .inl (cy 0, 8, .inl (fun _ => 0))), (q4, .inl (cy 1, 8, .inl (fun _ => 0))), (q5, .inl (cy 1, 8, .inl (fun _ => 0))), (q6, .inl (cy 1, 8, .inl (fun _ => 0))), (q7, .inl (cy 1, 8, .inl (fun _ => 0))), (q8, .inl (cy 1, 8, .inl (fun _ => 0))), (q9, .inl (cy 1, 8, .inl (fun _ => 0)))]) H locs := hh
  refine n_putF (k := 0) (v := .ref q9) (T := TX4) (ty := (.array .int)) C0 hi hh rfl rfl hinX4 tyX4 tyX4_ok nmX4 (by decide) w43 rfl rfl (by decide +kernel) rfl rfl (Nat.le_of_ble_eq_true rfl) dX4_init_73 (fun H locs hh => ?_)
  have hh : HL D n0 s (B0 ++ [(h0, .inr (4, [.int 0, .int 0, .ref q1, .ref q2, .ref q3, .ref q4, .ref q5, .ref q6, .ref q7, .ref q8, .ref q9, .null, .null, .null, .null, .null, .null, .null, .null, .null, .null, .null, .int 0, .int 0, .null, .null, .null, .null])), (q1, .inl (cy 0, 8, .inl (fun _ => 0))), (q2, .inl (cy 0, 8, .inl (fun _ => 0))), (q3, .inl (cy 0, 8, .inl (fun _ => 0))), (q4, .inl (cy 1, 8, .inl (fun _ => 0))), (q5, .inl (cy 1, 8, .inl (fun _ => 0))), (q6, .inl (cy 1, 8, .inl (fun _ => 0))), (q7, .inl (cy 1, 8, .inl (fun _ => 0))), (q8, .inl (cy 1, 8, .inl (fun _ => 0))), (q9, .inl (cy 1, 8, .inl (fun _ => 0)))]) H locs := hh
  refine lv_aload_n C0.1.1 C0.1.2.1 dX4_init_76 rfl (lv_at hl 0 rfl) ?_
  refine lv_bipush (v := 8) C0.1.1 C0.1.2.1 dX4_init_77 (by decide) ?_
  refine n_newa (atype := .int) (ty := .int) (N := 8) (t := 1) (a0 := (8, .inl (fun _ => 0))) C0 hh w3 rfl rfl (fun _ => rfl) (by decide) (by decide +kernel) (Nat.le_of_ble_eq_true rfl) (Nat.le_of_ble_eq_true rfl) (Nat.le_of_ble_eq_true rfl) dX4_init_79 (fun q10 H hh => ?_)
  have hh : HL D n0 s (B0 ++ [(h0, .inr (4, [.int 0, .int 0, .ref q1, .ref q2, .ref q3, .ref q4, .ref q5, .ref q6, .ref q7, .ref q8, .ref q9, .null, .null, .null, .null, .null, .null, .null, .null, .null, .null, .null, .int 0, .int 0, .null, .null, .null, .null])), (q1, .inl (cy 0, 8, .inl (fun _ => 0))), (q2, .inl (cy 0, 8, .inl (fun _ => 0))), (q3, .inl (cy 0, 8, .inl (fun _ => 0))), (q4, .inl (cy 1, 8, .inl (fun _ => 0))), (q5, .inl (cy 1, 8, .inl (fun _ => 0))), (q6, .inl (cy 1, 8, .inl (fun _ => 0))), (q7, .inl (cy 1, 8, .inl (fun _ => 0))), (q8, .inl (cy 1, 8, .inl (fun _ => 0))), (q9, .inl (cy 1, 8, .inl (fun _ => 0))), (q10, .inl (cy 1, 8, .inl (fun _ => 0)))]) H locs := hh
  refine n_putF (k := 0) (v := .ref q10) (T := TX4) (ty := (.array .int)) C0 hi hh rfl rfl hinX4 tyX4 tyX4_ok nmX4 (by decide) w44 rfl rfl (by decide +kernel) rfl rfl (Nat.le_of_ble_eq_true rfl) dX4_init_81 (fun H locs hh => ?_)
  have hh : HL D n0 s (B0 ++ [(h0, .inr (4, [.int 0, .int 0, .ref q1, .ref q2, .ref q3, .ref q4, .ref q5, .ref q6, .ref q7, .ref q8, .ref q9, .ref q10, .null, .null, .null, .null, .null, .null, .null, .null, .null, .null, .int 0, .int 0, .null, .null, .null, .null])), (q1, .inl (cy 0, 8, .inl (fun _ => 0))), (q2, .inl (cy 0, 8, .inl (fun _ => 0))), (q3, .inl (cy 0, 8, .inl (fun _ => 0))), (q4, .inl (cy 1, 8, .inl (fun _ => 0))), (q5, .inl (cy 1, 8, .inl (fun _ => 0))), (q6, .inl (cy 1, 8, .inl (fun _ => 0))), (q7, .inl (cy 1, 8, .inl (fun _ => 0))), (q8, .inl (cy 1, 8, .inl (fun _ => 0))), (q9, .inl (cy 1, 8, .inl (fun _ => 0))), (q10, .inl (cy 1, 8, .inl (fun _ => 0)))]) H locs := hh
  refine lv_aload_n C0.1.1 C0.1.2.1 dX4_init_84 rfl (lv_at hl 0 rfl) ?_
  refine lv_bipush (v := 8) C0.1.1 C0.1.2.1 dX4_init_85 (by decide) ?_
  refine n_newa (atype := .int) (ty := .int) (N := 8) (t := 1) (a0 := (8, .inl (fun _ => 0))) C0 hh w3 rfl rfl (fun _ => rfl) (by decide) (by decide +kernel) (Nat.le_of_ble_eq_true rfl) (Nat.le_of_ble_eq_true rfl) (Nat.le_of_ble_eq_true rfl) dX4_init_87 (fun q11 H hh => ?_)
  have hh : HL D n0 s (B0 ++ [(h0, .inr (4, [.int 0, .int 0, .ref q1, .ref q2, .ref q3, .ref q4, .ref q5, .ref q6, .ref q7, .ref q8, .ref q9, .ref q10, .null, .null, .null, .null, .null, .null, .null, .null, .null, .null, .int 0, .int 0, .null, .null, .null, .null])), (q1, .inl (cy 0, 8, .inl (fun _ => 0))), (q2, .inl (cy 0, 8, .inl (fun _ => 0))), (q3, .inl (cy 0, 8, .inl (fun _ => 0))), (q4, .inl (cy 1, 8, .inl (fun _ => 0))), (q5, .inl (cy 1, 8, .inl (fun _ => 0))), (q6, .inl (cy 1, 8, .inl (fun _ => 0))), (q7, .inl (cy 1, 8, .inl (fun _ => 0))), (q8, .inl (cy 1, 8, .inl (fun _ => 0))), (q9, .inl (cy 1, 8, .inl (fun _ => 0))), (q10, .inl (cy 1, 8, .inl (fun _ => 0))), (q11, .inl (cy 1, 8, .inl (fun _ => 0)))]) H locs := hh
  refine n_putF (k := 0) (v := .ref q11) (T := TX4) (ty := (.array .int)) C0 hi hh rfl rfl hinX4 tyX4 tyX4_ok nmX4 (by decide) w45 rfl rfl (by decide +kernel) rfl rfl (Nat.le_of_ble_eq_true rfl) dX4_init_89 (fun H locs hh => ?_)
  have hh : HL D n0 s (B0 ++ [(h0, .inr (4, [.int 0, .int 0, .ref q1, .ref q2, .ref q3, .ref q4, .ref q5, .ref q6, .ref q7, .ref q8, .ref q9, .ref q10, .ref q11, .null, .null, .null, .null, .null, .null, .null, .null, .null, .int 0, .int 0, .null, .null, .null, .null])), (q1, .inl (cy 0, 8, .inl (fun _ => 0))), (q2, .inl (cy 0, 8, .inl (fun _ => 0))), (q3, .inl (cy 0, 8, .inl (fun _ => 0))), (q4, .inl (cy 1, 8, .inl (fun _ => 0))), (q5, .inl (cy 1, 8, .inl (fun _ => 0))), (q6, .inl (cy 1, 8, .inl (fun _ => 0))), (q7, .inl (cy 1, 8, .inl (fun _ => 0))), (q8, .inl (cy 1, 8, .inl (fun _ => 0))), (q9, .inl (cy 1, 8, .inl (fun _ => 0))), (q10, .inl (cy 1, 8, .inl (fun _ => 0))), (q11, .inl (cy 1, 8, .inl (fun _ => 0)))]) H locs := hh
  refine lv_aload_n C0.1.1 C0.1.2.1 dX4_init_92 rfl (lv_at hl 0 rfl) ?_
  refine lv_bipush (v := 8) C0.1.1 C0.1.2.1 dX4_init_93 (by decide) ?_
  refine n_newa (atype := .int) (ty := .int) (N := 8) (t := 1) (a0 := (8, .inl (fun _ => 0))) C0 hh w3 rfl rfl (fun _ => rfl) (by decide) (by decide +kernel) (Nat.le_of_ble_eq_true rfl) (Nat.le_of_ble_eq_true rfl) (Nat.le_of_ble_eq_true rfl) dX4_init_95 (fun q12 H hh => ?_)
  have hh : HL D n0 s (B0 ++ [(h0, .inr (4, [.int 0, .int 0, .ref q1, .ref q2, .ref q3, .ref q4, .ref q5, .ref q6, .ref q7, .ref q8, .ref q9, .ref q10, .ref q11, .null, .null, .null, .null, .null, .null, .null, .null, .null, .int 0, .int 0, .null, .null, .null, .null])), (q1, .inl (cy 0, 8, .inl (fun _ => 0))), (q2, .inl (cy 0, 8, .inl (fun _ => 0))), (q3, .inl (cy 0, 8, .inl (fun _ => 0))), (q4, .inl (cy 1, 8, .inl (fun _ => 0))), (q5, .inl (cy 1, 8, .inl (fun _ => 0))), (q6, .inl (cy 1, 8, .inl (fun _ => 0))), (q7, .inl (cy 1, 8, .inl (fun _ => 0))), (q8, .inl (cy 1, 8, .inl (fun _ => 0))), (q9, .inl (cy 1, 8, .inl (fun _ => 0))), (q10, .inl (cy 1, 8, .inl (fun _ => 0))), (q11, .inl (cy 1, 8, .inl (fun _ => 0))), (q12, .inl (cy 1, 8, .inl (fun _ => 0)))]) H locs := hh
  refine n_putF (k := 0) (v := .ref q12) (T := TX4) (ty := (.array .int)) C0 hi hh rfl rfl hinX4 tyX4 tyX4_ok nmX4 (by decide) w46 rfl rfl (by decide +kernel) rfl rfl (Nat.le_of_ble_eq_true rfl) dX4_init_97 (fun H locs hh => ?_)
  have hh : HL D n0 s (B0 ++ [(h0, .inr (4, [.int 0, .int 0, .ref q1, .ref q2, .ref q3, .ref q4, .ref q5, .ref q6, .ref q7, .ref q8, .ref q9, .ref q10, .ref q11, .ref q12, .null, .null, .null, .null, .null, .null, .null, .null, .int 0, .int 0, .null, .null, .null, .null])), (q1, .inl (cy 0, 8, .inl (fun _ => 0))), (q2, .inl (cy 0, 8, .inl (fun _ => 0))), (q3, .inl (cy 0, 8, .inl (fun _ => 0))), (q4, .inl (cy 1, 8, .inl (fun _ => 0))), (q5, .inl (cy 1, 8, .inl (fun _ => 0))), (q6, .inl (cy 1, 8, .inl (fun _ => 0))), (q7, .inl (cy 1, 8, .inl (fun _ => 0))), (q8, .inl (cy 1, 8, .inl (fun _ => 0))), (q9, .inl (cy 1, 8, .inl (fun _ => 0))), (q10, .inl (cy 1, 8, .inl (fun _ => 0))), (q11, .inl (cy 1, 8, .inl (fun _ => 0))), (q12, .inl (cy 1, 8, .inl (fun _ => 0)))]) H locs := hh
  refine lv_aload_n C0.1.1 C0.1.2.1 dX4_init_100 rfl (lv_at hl 0 rfl) ?_
  refine lv_bipush (v := 8) C0.1.1 C0.1.2.1 dX4_init_101 (by decide) ?_
  refine n_newa (atype := .int) (ty := .int) (N := 8) (t := 1) (a0 := (8, .inl (fun _ => 0))) C0 hh w3 rfl rfl (fun _ => rfl) (by decide) (by decide +kernel) (Nat.le_of_ble_eq_true rfl) (Nat.le_of_ble_eq_true rfl) (Nat.le_of_ble_eq_true rfl) dX4_init_103 (fun q13 H hh => ?_)
  have hh : HL D n0 s (B0 ++ [(h0, .inr (4, [.int 0, .int 0, .ref q1, .ref q2, .ref q3, .ref q4, .ref q5, .ref q6, .ref q7, .ref q8, .ref q9, .ref q10, .ref q11, .ref q12, .null, .null, .null, .null, .null, .null, .null, .null, .int 0, .int 0, .null, .null, .null, .null])), (q1, .inl (cy 0, 8, .inl (fun _ => 0))), (q2, .inl (cy 0, 8, .inl (fun _ => 0))), (q3, .inl (cy 0, 8, .inl (fun _ => 0))), (q4, .inl (cy 1, 8, .inl (fun _ => 0))), (q5, .inl (cy 1, 8, .inl (fun _ => 0))), (q6, .inl (cy 1, 8, .inl (fun _ => 0))), (q7, .inl (cy 1, 8, .inl (fun _ => 0))), (q8, .inl (cy 1, 8, .inl (fun _ => 0))), (q9, .inl (cy 1, 8, .inl (fun _ => 0))), (q10, .inl (cy 1, 8, .inl (fun _ => 0))), (q11, .inl (cy 1, 8, .inl (fun _ => 0))), (q12, .inl (cy 1, 8, .inl (fun _ => 0))), (q13, .inl (cy 1, 8, .inl (fun _ => 0)))]) H locs := hh
  refine n_putF (k := 0) (v := .ref q13) (T := TX4) (ty := (.array .int)) C0 hi hh rfl rfl hinX4 tyX4 tyX4_ok nmX4 (by decide) w47 rfl rfl (by decide +kernel) rfl rfl (Nat.le_of_ble_eq_true rfl) dX4_init_105 (fun H locs hh => ?_)
  have hh : HL D n0 s (B0 ++ [(h0, .inr (4, [.int 0, .int 0, .ref q1, .ref q2, .ref q3, .ref q4, .ref q5, .ref q6, .ref q7, .ref q8, .ref q9, .ref q10, .ref q11, .ref q12, .ref q13, .null, .null, .null, .null, .null, .null, .null, .int 0, .int 0, .null, .null, .null, .null])), (q1, .inl (cy 0, 8, .inl (fun _ => 0))), (q2, .inl (cy 0, 8, .inl (fun _ => 0))), (q3, .inl (cy 0, 8, .inl (fun _ => 0))), (q4, .inl (cy 1, 8, .inl (fun _ => 0))), (q5, .inl (cy 1, 8, .inl (fun _ => 0))), (q6, .inl (cy 1, 8, .inl (fun _ => 0))), (q7, .inl (cy 1, 8, .inl (fun _ => 0))), (q8, .inl (cy 1, 8, .inl (fun _ => 0))), (q9, .inl (cy 1, 8, .inl (fun _ => 0))), (q10, .inl (cy 1, 8, .inl (fun _ => 0))), (q11, .inl (cy 1, 8, .inl (fun _ => 0))), (q12, .inl (cy 1, 8, .inl (fun _ => 0))), (q13, .inl (cy 1, 8, .inl (fun _ => 0)))]) H locs := hh
  refine lv_aload_n C0.1.1 C0.1.2.1 dX4_init_108 rfl (lv_at hl 0 rfl) ?_
  refine lv_bipush (v := 8) C0.1.1 C0.1.2.1 dX4_init_109 (by decide) ?_
  refine n_newa (atype := .int) (ty := .int) (N := 8) (t := 1) (a0 := (8, .inl (fun _ => 0))) C0 hh w3 rfl rfl (fun _ => rfl) (by decide) (by decide +kernel) (Nat.le_of_ble_eq_true rfl) (Nat.le_of_ble_eq_true rfl) (Nat.le_of_ble_eq_true rfl) dX4_init_111 (fun q14 H hh => ?_)
  have hh : HL D n0 s (B0 ++ [(h0, .inr (4, [.int 0, .int 0, .ref q1, .ref q2, .ref q3, .ref q4, .ref q5, .ref q6, .ref q7, .ref q8, .ref q9, .ref q10, .ref q11, .ref q12, .ref q13, .null, .null, .null, .null, .null, .null, .null, .int 0, .int 0, .null, .null, .null, .null])), (q1, .inl (cy 0, 8, .inl (fun _ => 0))), (q2, .inl (cy 0, 8, .inl (fun _ => 0))), (q3, .inl (cy 0, 8, .inl (fun _ => 0))), (q4, .inl (cy 1, 8, .inl (fun _ => 0))), (q5, .inl (cy 1, 8, .inl (fun _ => 0))), (q6, .inl (cy 1, 8, .inl (fun _ => 0))), (q7, .inl (cy 1, 8, .inl (fun _ => 0))), (q8, .inl (cy 1, 8, .inl (fun _ => 0))), (q9, .inl (cy 1, 8, .inl (fun _ => 0))), (q10, .inl (cy 1, 8, .inl (fun _ => 0))), (q11, .inl (cy 1, 8, .inl (fun _ => 0))), (q12, .inl (cy 1, 8, .inl (fun _ => 0))), (q13, .inl (cy 1, 8, .inl (fun _ => 0))), (q14, .inl (cy 1, 8, .inl (fun _ => 0)))]) H locs := hh
  refine n_putF (k := 0) (v := .ref q14) (T := TX4) (ty := (.array .int)) C0 hi hh rfl rfl hinX4 tyX4 tyX4_ok nmX4 (by decide) w48 rfl rfl (by decide +kernel) rfl rfl (Nat.le_of_ble_eq_true rfl) dX4_init_113 (fun H locs hh => ?_)
  have hh : HL D n0 s (B0 ++ [(h0, .inr (4, [.int 0, .int 0, .ref q1, .ref q2, .ref q3, .ref q4, .ref q5, .ref q6, .ref q7, .ref q8, .ref q9, .ref q10, .ref q11, .ref q12, .ref q13, .ref q14, .null, .null, .null, .null, .null, .null, .int 0, .int 0, .null, .null, .null, .null])), (q1, .inl (cy 0, 8, .inl (fun _ => 0))), (q2, .inl (cy 0, 8, .inl (fun _ => 0))), (q3, .inl (cy 0, 8, .inl (fun _ => 0))), (q4, .inl (cy 1, 8, .inl (fun _ => 0))), (q5, .inl (cy 1, 8, .inl (fun _ => 0))), (q6, .inl (cy 1, 8, .inl (fun _ => 0))), (q7, .inl (cy 1, 8, .inl (fun _ => 0))), (q8, .inl (cy 1, 8, .inl (fun _ => 0))), (q9, .inl (cy 1, 8, .inl (fun _ => 0))), (q10, .inl (cy 1, 8, .inl (fun _ => 0))), (q11, .inl (cy 1, 8, .inl (fun _ => 0))), (q12, .inl (cy 1, 8, .inl (fun _ => 0))), (q13, .inl (cy 1, 8, .inl (fun _ => 0))), (q14, .inl (cy 1, 8, .inl (fun _ => 0)))]) H locs := hh
  refine lv_aload_n C0.1.1 C0.1.2.1 dX4_init_116 rfl (lv_at hl 0 rfl) ?_
  refine lv_bipush (v := 8) C0.1.1 C0.1.2.1 dX4_init_117 (by decide) ?_
  refine n_newa (atype := .int) (ty := .int) (N := 8) (t := 1) (a0 := (8, .inl (fun _ => 0))) C0 hh w3 rfl rfl (fun _ => rfl) (by decide) (by decide +kernel) (Nat.le_of_ble_eq_true rfl) (Nat.le_of_ble_eq_true rfl) (Nat.le_of_ble_eq_true rfl) dX4_init_119 (fun q15 H hh => ?_)
  have hh : HL D n0 s (B0 ++ [(h0, .inr (4, [.int 0, .int 0, .ref q1, .ref q2, .ref q3, .ref q4, .ref q5, .ref q6, .ref q7, .ref q8, .ref q9, .ref q10, .ref q11, .ref q12, .ref q13, .ref q14, .null, .null, .null, .null, .null, .null, .int 0, .int 0, .null, .null, .null, .null])), (q1, .inl (cy 0, 8, .inl (fun _ => 0))), (q2, .inl (cy 0, 8, .inl (fun _ => 0))), (q3, .inl (cy 0, 8, .inl (fun _ => 0))), (q4, .inl (cy 1, 8, .inl (fun _ => 0))), (q5, .inl (cy 1, 8, .inl (fun _ => 0))), (q6, .inl (cy 1, 8, .inl (fun _ => 0))), (q7, .inl (cy 1, 8, .inl (fun _ => 0))), (q8, .inl (cy 1, 8, .inl (fun _ => 0))), (q9, .inl (cy 1, 8, .inl (fun _ => 0))), (q10, .inl (cy 1, 8, .inl (fun _ => 0))), (q11, .inl (cy 1, 8, .inl (fun _ => 0))), (q12, .inl (cy 1, 8, .inl (fun _ => 0))), (q13, .inl (cy 1, 8, .inl (fun _ => 0))), (q14, .inl (cy 1, 8, .inl (fun _ => 0))), (q15, .inl (cy 1, 8, .inl (fun _ => 0)))]) H locs := hh
  refine n_putF (k := 0) (v := .ref q15) (T := TX4) (ty := (.array .int)) C0 hi hh rfl rfl hinX4 tyX4 tyX4_ok nmX4 (by decide) w49 rfl rfl (by decide +kernel) rfl rfl (Nat.le_of_ble_eq_true rfl) dX4_init_121 (fun H locs hh => ?_)
  have hh : HL D n0 s (B0 ++ [(h0, .inr (4, [.int 0, .int 0, .ref q1, .ref q2, .ref q3, .ref q4, .ref q5, .ref q6, .ref q7, .ref q8, .ref q9, .ref q10, .ref q11, .ref q12, .ref q13, .ref q14, .ref q15, .null, .null, .null, .null, .null, .int 0, .int 0, .null, .null, .null, .null])), (q1, .inl (cy 0, 8, .inl (fun _ => 0))), (q2, .inl (cy 0, 8, .inl (fun _ => 0))), (q3, .inl (cy 0, 8, .inl (fun _ => 0))), (q4, .inl (cy 1, 8, .inl (fun _ => 0))), (q5, .inl (cy 1, 8, .inl (fun _ => 0))), (q6, .inl (cy 1, 8, .inl (fun _ => 0))), (q7, .inl (cy 1, 8, .inl (fun _ => 0))), (q8, .inl (cy 1, 8, .inl (fun _ => 0))), (q9, .inl (cy 1, 8, .inl (fun _ => 0))), (q10, .inl (cy 1, 8, .inl (fun _ => 0))), (q11, .inl (cy 1, 8, .inl (fun _ => 0))), (q12, .inl (cy 1, 8, .inl (fun _ => 0))), (q13, .inl (cy 1, 8, .inl (fun _ => 0))), (q14, .inl (cy 1, 8, .inl (fun _ => 0))), (q15, .inl (cy 1, 8, .inl (fun _ => 0)))]) H locs := hh
  refine lv_aload_n C0.1.1 C0.1.2.1 dX4_init_124 rfl (lv_at hl 0 rfl) ?_
  refine lv_bipush (v := 8) C0.1.1 C0.1.2.1 dX4_init_125 (by decide) ?_
  refine n_newa (atype := .boolean) (ty := .boolean) (N := 8) (t := 2) (a0 := (8, .inl (fun _ => 0))) C0 hh w50 rfl rfl (fun _ => rfl) (by decide) (by decide +kernel) (Nat.le_of_ble_eq_true rfl) (Nat.le_of_ble_eq_true rfl) (Nat.le_of_ble_eq_true rfl) dX4_init_127 (fun q16 H hh => ?_)
  have hh : HL D n0 s (B0 ++ [(h0, .inr (4, [.int 0, .int 0, .ref q1, .ref q2, .ref q3, .ref q4, .ref q5, .ref q6, .ref q7, .ref q8, .ref q9, .ref q10, .ref q11, .ref q12, .ref q13, .ref q14, .ref q15, .null, .null, .null, .null, .null, .int 0, .int 0, .null, .null, .null, .null])), (q1, .inl (cy 0, 8, .inl (fun _ => 0))), (q2, .inl (cy 0, 8, .inl (fun _ => 0))), (q3, .inl (cy 0, 8, .inl (fun _ => 0))), (q4, .inl (cy 1, 8, .inl (fun _ => 0))), (q5, .inl (cy 1, 8, .inl (fun _ => 0))), (q6, .inl (cy 1, 8, .inl (fun _ => 0))), (q7, .inl (cy 1, 8, .inl (fun _ => 0))), (q8, .inl (cy 1, 8, .inl (fun _ => 0))), (q9, .inl (cy 1, 8, .inl (fun _ => 0))), (q10, .inl (cy 1, 8, .inl (fun _ => 0))), (q11, .inl (cy 1, 8, .inl (fun _ => 0))), (q12, .inl (cy 1, 8, .inl (fun _ => 0))), (q13, .inl (cy 1, 8, .inl (fun _ => 0))), (q14, .inl (cy 1, 8, .inl (fun _ => 0))), (q15, .inl (cy 1, 8, .inl (fun _ => 0))), (q16, .inl (cy 2, 8, .inl (fun _ => 0)))]) H locs := hh
  refine n_putF (k := 0) (v := .ref q16) (T := TX4) (ty := (.array .boolean)) C0 hi hh rfl rfl hinX4 tyX4 tyX4_ok nmX4 (by decide) w51 rfl rfl (by decide +kernel) rfl rfl (Nat.le_of_ble_eq_true rfl) dX4_init_129 (fun H locs hh => ?_)
  have hh : HL D n0 s (B0 ++ [(h0, .inr (4, [.int 0, .int 0, .ref q1, .ref q2, .ref q3, .ref q4, .ref q5, .ref q6, .ref q7, .ref q8, .ref q9, .ref q10, .ref q11, .ref q12, .ref q13, .ref q14, .ref q15, .ref q16, .null, .null, .null, .null, .int 0, .int 0, .null, .null, .null, .null])), (q1, .inl (cy 0, 8, .inl (fun _ => 0))), (q2, .inl (cy 0, 8, .inl (fun _ => 0))), (q3, .inl (cy 0, 8, .inl (fun _ => 0))), (q4, .inl (cy 1, 8, .inl (fun _ => 0))), (q5, .inl (cy 1, 8, .inl (fun _ => 0))), (q6, .inl (cy 1, 8, .inl (fun _ => 0))), (q7, .inl (cy 1, 8, .inl (fun _ => 0))), (q8, .inl (cy 1, 8, .inl (fun _ => 0))), (q9, .inl (cy 1, 8, .inl (fun _ => 0))), (q10, .inl (cy 1, 8, .inl (fun _ => 0))), (q11, .inl (cy 1, 8, .inl (fun _ => 0))), (q12, .inl (cy 1, 8, .inl (fun _ => 0))), (q13, .inl (cy 1, 8, .inl (fun _ => 0))), (q14, .inl (cy 1, 8, .inl (fun _ => 0))), (q15, .inl (cy 1, 8, .inl (fun _ => 0))), (q16, .inl (cy 2, 8, .inl (fun _ => 0)))]) H locs := hh
  refine lv_aload_n C0.1.1 C0.1.2.1 dX4_init_132 rfl (lv_at hl 0 rfl) ?_
  refine lv_bipush (v := 8) C0.1.1 C0.1.2.1 dX4_init_133 (by decide) ?_
  refine n_newa (atype := .boolean) (ty := .boolean) (N := 8) (t := 2) (a0 := (8, .inl (fun _ => 0))) C0 hh w50 rfl rfl (fun _ => rfl) (by decide) (by decide +kernel) (Nat.le_of_ble_eq_true rfl) (Nat.le_of_ble_eq_true rfl) (Nat.le_of_ble_eq_true rfl) dX4_init_135 (fun q17 H hh => ?_)
  have hh : HL D n0 s (B0 ++ [(h0, .inr (4, [.int 0, .int 0, .ref q1, .ref q2, .ref q3, .ref q4, .ref q5, .ref q6, .ref q7, .ref q8, .ref q9, .ref q10, .ref q11, .ref q12, .ref q13, .ref q14, .ref q15, .ref q16, .null, .null, .null, .null, .int 0, .int 0, .null, .null, .null, .null])), (q1, .inl (cy 0, 8, .inl (fun _ => 0))), (q2, .inl (cy 0, 8, .inl (fun _ => 0))), (q3, .inl (cy 0, 8, .inl (fun _ => 0))), (q4, .inl (cy 1, 8, .inl (fun _ => 0))), (q5, .inl (cy 1, 8, .inl (fun _ => 0))), (q6, .inl (cy 1, 8, .inl (fun _ => 0))), (q7, .inl (cy 1, 8, .inl (fun _ => 0))), (q8, .inl (cy 1, 8, .inl (fun _ => 0))), (q9, .inl (cy 1, 8, .inl (fun _ => 0))), (q10, .inl (cy 1, 8, .inl (fun _ => 0))), (q11, .inl (cy 1, 8, .inl (fun _ => 0))), (q12, .inl (cy 1, 8, .inl (fun _ => 0))), (q13, .inl (cy 1, 8, .inl (fun _ => 0))), (q14, .inl (cy 1, 8, .inl (fun _ => 0))), (q15, .inl (cy 1, 8, .inl (fun _ => 0))), (q16, .inl (cy 2, 8, .inl (fun _ => 0))), (q17, .inl (cy 2, 8, .inl (fun _ => 0)))]) H locs := hh
  refine n_putF (k := 0) (v := .ref q17) (T := TX4) (ty := (.array .boolean)) C0 hi hh rfl rfl hinX4 tyX4 tyX4_ok nmX4 (by decide) w52 rfl rfl (by decide +kernel) rfl rfl (Nat.le_of_ble_eq_true rfl) dX4_init_137 (fun H locs hh => ?_)
  have hh : HL D n0 s (B0 ++ [(h0, .inr (4, [.int 0, .int 0, .ref q1, .ref q2, .ref q3, .ref q4, .ref q5, .ref q6, .ref q7, .ref q8, .ref q9, .ref q10, .ref q11, .ref q12, .ref q13, .ref q14, .ref q15, .ref q16, .ref q17, .null, .null, .null, .int 0, .int 0, .null, .null, .null, .null])), (q1, .inl (cy 0, 8, .inl (fun _ => 0))), (q2, .inl (cy 0, 8, .inl (fun _ => 0))), (q3, .inl (cy 0, 8, .inl (fun _ => 0))), (q4, .inl (cy 1, 8, .inl (fun _ => 0))), (q5, .inl (cy 1, 8, .inl (fun _ => 0))), (q6, .inl (cy 1, 8, .inl (fun _ => 0))), (q7, .inl (cy 1, 8, .inl (fun _ => 0))), (q8, .inl (cy 1, 8, .inl (fun _ => 0))), (q9, .inl (cy 1, 8, .inl (fun _ => 0))), (q10, .inl (cy 1, 8, .inl (fun _ => 0))), (q11, .inl (cy 1, 8, .inl (fun _ => 0))), (q12, .inl (cy 1, 8, .inl (fun _ => 0))), (q13, .inl (cy 1, 8, .inl (fun _ => 0))), (q14, .inl (cy 1, 8, .inl (fun _ => 0))), (q15, .inl (cy 1, 8, .inl (fun _ => 0))), (q16, .inl (cy 2, 8, .inl (fun _ => 0))), (q17, .inl (cy 2, 8, .inl (fun _ => 0)))]) H locs := hh
  refine lv_aload_n C0.1.1 C0.1.2.1 dX4_init_140 rfl (lv_at hl 0 rfl) ?_
  refine lv_bipush (v := 8) C0.1.1 C0.1.2.1 dX4_init_141 (by decide) ?_
  refine n_newa (atype := .boolean) (ty := .boolean) (N := 8) (t := 2) (a0 := (8, .inl (fun _ => 0))) C0 hh w50 rfl rfl (fun _ => rfl) (by decide) (by decide +kernel) (Nat.le_of_ble_eq_true rfl) (Nat.le_of_ble_eq_true rfl) (Nat.le_of_ble_eq_true rfl) dX4_init_143 (fun q18 H hh => ?_)
  have hh : HL D n0 s (B0 ++ [(h0, .inr (4, [.int 0, .int 0, .ref q1, .ref q2, .ref q3, .ref q4, .ref q5, .ref q6, .ref q7, .ref q8, .ref q9, .ref q10, .ref q11, .ref q12, .ref q13, .ref q14, .ref q15, .ref q16, .ref q17, .null, .null, .null, .int 0, .int 0, .null, .null, .null, .null])), (q1, .inl (cy 0, 8, .inl (fun _ => 0))), (q2, .inl (cy 0, 8, .inl (fun _ => 0))), (q3, .inl (cy 0, 8, .inl (fun _ => 0))), (q4, .inl (cy 1, 8, .inl (fun _ => 0))), (q5, .inl (cy 1, 8, .inl (fun _ => 0))), (q6, .inl (cy 1, 8, .inl (fun _ => 0))), (q7, .inl (cy 1, 8, .inl (fun _ => 0))), (q8, .inl (cy 1, 8, .inl (fun _ => 0))), (q9, .inl (cy 1, 8, .inl (fun _ => 0))), (q10, .inl (cy 1, 8, .inl (fun _ => 0))), (q11, .inl (cy 1, 8, .inl (fun _ => 0))), (q12, .inl (cy 1, 8, .inl (fun _ => 0))), (q13, .inl (cy 1, 8, .inl (fun _ => 0))), (q14, .inl (cy 1, 8, .inl (fun _ => 0))), (q15, .inl (cy 1, 8, .inl (fun _ => 0))), (q16, .inl (cy 2, 8, .inl (fun _ => 0))), (q17, .inl (cy 2, 8, .inl (fun _ => 0))), (q18, .inl (cy 2, 8, .inl (fun _ => 0)))]) H locs := hh
  refine n_putF (k := 0) (v := .ref q18) (T := TX4) (ty := (.array .boolean)) C0 hi hh rfl rfl hinX4 tyX4 tyX4_ok nmX4 (by decide) w53 rfl rfl (by decide +kernel) rfl rfl (Nat.le_of_ble_eq_true rfl) dX4_init_145 (fun H locs hh => ?_)
  have hh : HL D n0 s (B0 ++ [(h0, .inr (4, [.int 0, .int 0, .ref q1, .ref q2, .ref q3, .ref q4, .ref q5, .ref q6, .ref q7, .ref q8, .ref q9, .ref q10, .ref q11, .ref q12, .ref q13, .ref q14, .ref q15, .ref q16, .ref q17, .ref q18, .null, .null, .int 0, .int 0, .null, .null, .null, .null])), (q1, .inl (cy 0, 8, .inl (fun _ => 0))), (q2, .inl (cy 0, 8, .inl (fun _ => 0))), (q3, .inl (cy 0, 8, .inl (fun _ => 0))), (q4, .inl (cy 1, 8, .inl (fun _ => 0))), (q5, .inl (cy 1, 8, .inl (fun _ => 0))), (q6, .inl (cy 1, 8, .inl (fun _ => 0))), (q7, .inl (cy 1, 8, .inl (fun _ => 0))), (q8, .inl (cy 1, 8, .inl (fun _ => 0))), (q9, .inl (cy 1, 8, .inl (fun _ => 0))), (q10, .inl (cy 1, 8, .inl (fun _ => 0))), (q11, .inl (cy 1, 8, .inl (fun _ => 0))), (q12, .inl (cy 1, 8, .inl (fun _ => 0))), (q13, .inl (cy 1, 8, .inl (fun _ => 0))), (q14, .inl (cy 1, 8, .inl (fun _ => 0))), (q15, .inl (cy 1, 8, .inl (fun _ => 0))), (q16, .inl (cy 2, 8, .inl (fun _ => 0))), (q17, .inl (cy 2, 8, .inl (fun _ => 0))), (q18, .inl (cy 2, 8, .inl (fun _ => 0)))]) H locs := hh
  refine lv_aload_n C0.1.1 C0.1.2.1 dX4_init_148 rfl (lv_at hl 0 rfl) ?_
  refine lv_sipush (v := 480) C0.1.1 C0.1.2.1 dX4_init_149 (by decide) ?_
  refine n_newa (atype := .int) (ty := .int) (N := 480) (t := 1) (a0 := (480, .inl (fun _ => 0))) C0 hh w3 rfl rfl (fun _ => rfl) (by decide) (by decide +kernel) (Nat.le_of_ble_eq_true rfl) (Nat.le_of_ble_eq_true rfl) (Nat.le_of_ble_eq_true rfl) dX4_init_152 (fun q19 H hh => ?_)
  have hh : HL D n0 s (B0 ++ [(h0, .inr (4, [.int 0, .int 0, .ref q1, .ref q2, .ref q3, .ref q4, .ref q5, .ref q6, .ref q7, .ref q8, .ref q9, .ref q10, .ref q11, .ref q12, .ref q13, .ref q14, .ref q15, .ref q16, .ref q17, .ref q18, .null, .null, .int 0, .int 0, .null, .null, .null, .null])), (q1, .inl (cy 0, 8, .inl (fun _ => 0))), (q2, .inl (cy 0, 8, .inl (fun _ => 0))), (q3, .inl (cy 0, 8, .inl (fun _ => 0))), (q4, .inl (cy 1, 8, .inl (fun _ => 0))), (q5, .inl (cy 1, 8, .inl (fun _ => 0))), (q6, .inl (cy 1, 8, .inl (fun _ => 0))), (q7, .inl (cy 1, 8, .inl (fun _ => 0))), (q8, .inl (cy 1, 8, .inl (fun _ => 0))), (q9, .inl (cy 1, 8, .inl (fun _ => 0))), (q10, .inl (cy 1, 8, .inl (fun _ => 0))), (q11, .inl (cy 1, 8, .inl (fun _ => 0))), (q12, .inl (cy 1, 8, .inl (fun _ => 0))), (q13, .inl (cy 1, 8, .inl (fun _ => 0))), (q14, .inl (cy 1, 8, .inl (fun _ => 0))), (q15, .inl (cy 1, 8, .inl (fun _ => 0))), (q16, .inl (cy 2, 8, .inl (fun _ => 0))), (q17, .inl (cy 2, 8, .inl (fun _ => 0))), (q18, .inl (cy 2, 8, .inl (fun _ => 0))), (q19, .inl (cy 1, 480, .inl (fun _ => 0)))]) H locs := hh
  refine n_putF (k := 0) (v := .ref q19) (T := TX4) (ty := (.array .int)) C0 hi hh rfl rfl hinX4 tyX4 tyX4_ok nmX4 (by decide) w54 rfl rfl (by decide +kernel) rfl rfl (Nat.le_of_ble_eq_true rfl) dX4_init_154 (fun H locs hh => ?_)
  have hh : HL D n0 s (B0 ++ [(h0, .inr (4, [.int 0, .int 0, .ref q1, .ref q2, .ref q3, .ref q4, .ref q5, .ref q6, .ref q7, .ref q8, .ref q9, .ref q10, .ref q11, .ref q12, .ref q13, .ref q14, .ref q15, .ref q16, .ref q17, .ref q18, .ref q19, .null, .int 0, .int 0, .null, .null, .null, .null])), (q1, .inl (cy 0, 8, .inl (fun _ => 0))), (q2, .inl (cy 0, 8, .inl (fun _ => 0))), (q3, .inl (cy 0, 8, .inl (fun _ => 0))), (q4, .inl (cy 1, 8, .inl (fun _ => 0))), (q5, .inl (cy 1, 8, .inl (fun _ => 0))), (q6, .inl (cy 1, 8, .inl (fun _ => 0))), (q7, .inl (cy 1, 8, .inl (fun _ => 0))), (q8, .inl (cy 1, 8, .inl (fun _ => 0))), (q9, .inl (cy 1, 8, .inl (fun _ => 0))), (q10, .inl (cy 1, 8, .inl (fun _ => 0))), (q11, .inl (cy 1, 8, .inl (fun _ => 0))), (q12, .inl (cy 1, 8, .inl (fun _ => 0))), (q13, .inl (cy 1, 8, .inl (fun _ => 0))), (q14, .inl (cy 1, 8, .inl (fun _ => 0))), (q15, .inl (cy 1, 8, .inl (fun _ => 0))), (q16, .inl (cy 2, 8, .inl (fun _ => 0))), (q17, .inl (cy 2, 8, .inl (fun _ => 0))), (q18, .inl (cy 2, 8, .inl (fun _ => 0))), (q19, .inl (cy 1, 480, .inl (fun _ => 0)))]) H locs := hh
  refine lv_aload_n C0.1.1 C0.1.2.1 dX4_init_157 rfl (lv_at hl 0 rfl) ?_
  refine lv_sipush (v := 480) C0.1.1 C0.1.2.1 dX4_init_158 (by decide) ?_
  refine n_newa (atype := .int) (ty := .int) (N := 480) (t := 1) (a0 := (480, .inl (fun _ => 0))) C0 hh w3 rfl rfl (fun _ => rfl) (by decide) (by decide +kernel) (Nat.le_of_ble_eq_true rfl) (Nat.le_of_ble_eq_true rfl) (Nat.le_of_ble_eq_true rfl) dX4_init_161 (fun q20 H hh => ?_)
  have hh : HL D n0 s (B0 ++ [(h0, .inr (4, [.int 0, .int 0, .ref q1, .ref q2, .ref q3, .ref q4, .ref q5, .ref q6, .ref q7, .ref q8, .ref q9, .ref q10, .ref q11, .ref q12, .ref q13, .ref q14, .ref q15, .ref q16, .ref q17, .ref q18, .ref q19, .null, .int 0, .int 0, .null, .null, .null, .null])), (q1, .inl (cy 0, 8, .inl (fun _ => 0))), (q2, .inl (cy 0, 8, .inl (fun _ => 0))), (q3, .inl (cy 0, 8, .inl (fun _ => 0))), (q4, .inl (cy 1, 8, .inl (fun _ => 0))), (q5, .inl (cy 1, 8, .inl (fun _ => 0))), (q6, .inl (cy 1, 8, .inl (fun _ => 0))), (q7, .inl (cy 1, 8, .inl (fun _ => 0))), (q8, .inl (cy 1, 8, .inl (fun _ => 0))), (q9, .inl (cy 1, 8, .inl (fun _ => 0))), (q10, .inl (cy 1, 8, .inl (fun _ => 0))), (q11, .inl (cy 1, 8, .inl (fun _ => 0))), (q12, .inl (cy 1, 8, .inl (fun _ => 0))), (q13, .inl (cy 1, 8, .inl (fun _ => 0))), (q14, .inl (cy 1, 8, .inl (fun _ => 0))), (q15, .inl (cy 1, 8, .inl (fun _ => 0))), (q16, .inl (cy 2, 8, .inl (fun _ => 0))), (q17, .inl (cy 2, 8, .inl (fun _ => 0))), (q18, .inl (cy 2, 8, .inl (fun _ => 0))), (q19, .inl (cy 1, 480, .inl (fun _ => 0))), (q20, .inl (cy 1, 480, .inl (fun _ => 0)))]) H locs := hh
  refine n_putF (k := 0) (v := .ref q20) (T := TX4) (ty := (.array .int)) C0 hi hh rfl rfl hinX4 tyX4 tyX4_ok nmX4 (by decide) w55 rfl rfl (by decide +kernel) rfl rfl (Nat.le_of_ble_eq_true rfl) dX4_init_163 (fun H locs hh => ?_)
  have hh : HL D n0 s (B0 ++ [(h0, .inr (4, [.int 0, .int 0, .ref q1, .ref q2, .ref q3, .ref q4, .ref q5, .ref q6, .ref q7, .ref q8, .ref q9, .ref q10, .ref q11, .ref q12, .ref q13, .ref q14, .ref q15, .ref q16, .ref q17, .ref q18, .ref q19, .ref q20, .int 0, .int 0, .null, .null, .null, .null])), (q1, .inl (cy 0, 8, .inl (fun _ => 0))), (q2, .inl (cy 0, 8, .inl (fun _ => 0))), (q3, .inl (cy 0, 8, .inl (fun _ => 0))), (q4, .inl (cy 1, 8, .inl (fun _ => 0))), (q5, .inl (cy 1, 8, .inl (fun _ => 0))), (q6, .inl (cy 1, 8, .inl (fun _ => 0))), (q7, .inl (cy 1, 8, .inl (fun _ => 0))), (q8, .inl (cy 1, 8, .inl (fun _ => 0))), (q9, .inl (cy 1, 8, .inl (fun _ => 0))), (q10, .inl (cy 1, 8, .inl (fun _ => 0))), (q11, .inl (cy 1, 8, .inl (fun _ => 0))), (q12, .inl (cy 1, 8, .inl (fun _ => 0))), (q13, .inl (cy 1, 8, .inl (fun _ => 0))), (q14, .inl (cy 1, 8, .inl (fun _ => 0))), (q15, .inl (cy 1, 8, .inl (fun _ => 0))), (q16, .inl (cy 2, 8, .inl (fun _ => 0))), (q17, .inl (cy 2, 8, .inl (fun _ => 0))), (q18, .inl (cy 2, 8, .inl (fun _ => 0))), (q19, .inl (cy 1, 480, .inl (fun _ => 0))), (q20, .inl (cy 1, 480, .inl (fun _ => 0)))]) H locs := hh
  refine lv_aload_n C0.1.1 C0.1.2.1 dX4_init_166 rfl (lv_at hl 0 rfl) ?_
  refine lv_iconst (v := 1) C0.1.1 C0.1.2.1 dX4_init_167 (by decide) ?_
  refine n_put (k := 0) (v := .int 1) (T := TX4) (ty := .int) C0 hh rfl rfl hinX4 tyX4 tyX4_ok nmX4 (by decide) w56 rfl (by decide +kernel) rfl rfl (Nat.le_of_ble_eq_true rfl) dX4_init_168 (fun H locs hh => ?_)
  have hh : HL D n0 s (B0 ++ [(h0, .inr (4, [.int 0, .int 0, .ref q1, .ref q2, .ref q3, .ref q4, .ref q5, .ref q6, .ref q7, .ref q8, .ref q9, .ref q10, .ref q11, .ref q12, .ref q13, .ref q14, .ref q15, .ref q16, .ref q17, .ref q18, .ref q19, .ref q20, .int 1, .int 0, .null, .null, .null, .null])), (q1, .inl (cy 0, 8, .inl (fun _ => 0))), (q2, .inl (cy 0, 8, .inl (fun _ => 0))), (q3, .inl (cy 0, 8, .inl (fun _ => 0))), (q4, .inl (cy 1, 8, .inl (fun _ => 0))), (q5, .inl (cy 1, 8, .inl (fun _ => 0))), (q6, .inl (cy 1, 8, .inl (fun _ => 0))), (q7, .inl (cy 1, 8, .inl (fun _ => 0))), (q8, .inl (cy 1, 8, .inl (fun _ => 0))), (q9, .inl (cy 1, 8, .inl (fun _ => 0))), (q10, .inl (cy 1, 8, .inl (fun _ => 0))), (q11, .inl (cy 1, 8, .inl (fun _ => 0))), (q12, .inl (cy 1, 8, .inl (fun _ => 0))), (q13, .inl (cy 1, 8, .inl (fun _ => 0))), (q14, .inl (cy 1, 8, .inl (fun _ => 0))), (q15, .inl (cy 1, 8, .inl (fun _ => 0))), (q16, .inl (cy 2, 8, .inl (fun _ => 0))), (q17, .inl (cy 2, 8, .inl (fun _ => 0))), (q18, .inl (cy 2, 8, .inl (fun _ => 0))), (q19, .inl (cy 1, 480, .inl (fun _ => 0))), (q20, .inl (cy 1, 480, .inl (fun _ => 0)))]) H locs := hh
  refine lv_aload_n C0.1.1 C0.1.2.1 dX4_init_171 rfl (lv_at hl 0 rfl) ?_
  refine lv_bipush (v := 6) C0.1.1 C0.1.2.1 dX4_init_172 (by decide) ?_
  refine n_newa (atype := .char) (ty := .char) (N := 6) (t := 0) (a0 := (6, .inl (fun _ => 0))) C0 hh w34 rfl rfl (fun _ => rfl) (by decide) (by decide +kernel) (Nat.le_of_ble_eq_true rfl) (Nat.le_of_ble_eq_true rfl) (Nat.le_of_ble_eq_true rfl) dX4_init_174 (fun q21 H hh => ?_)
  have hh : HL D n0 s (B0 ++ [(h0, .inr (4, [.int 0, .int 0, .ref q1, .ref q2, .ref q3, .ref q4, .ref q5, .ref q6, .ref q7, .ref q8, .ref q9, .ref q10, .ref q11, .ref q12, .ref q13, .ref q14, .ref q15, .ref q16, .ref q17, .ref q18, .ref q19, .ref q20, .int 1, .int 0, .null, .null, .null, .null])), (q1, .inl (cy 0, 8, .inl (fun _ => 0))), (q2, .inl (cy 0, 8, .inl (fun _ => 0))), (q3, .inl (cy 0, 8, .inl (fun _ => 0))), (q4, .inl (cy 1, 8, .inl (fun _ => 0))), (q5, .inl (cy 1, 8, .inl (fun _ => 0))), (q6, .inl (cy 1, 8, .inl (fun _ => 0))), (q7, .inl (cy 1, 8, .inl (fun _ => 0))), (q8, .inl (cy 1, 8, .inl (fun _ => 0))), (q9, .inl (cy 1, 8, .inl (fun _ => 0))), (q10, .inl (cy 1, 8, .inl (fun _ => 0))), (q11, .inl (cy 1, 8, .inl (fun _ => 0))), (q12, .inl (cy 1, 8, .inl (fun _ => 0))), (q13, .inl (cy 1, 8, .inl (fun _ => 0))), (q14, .inl (cy 1, 8, .inl (fun _ => 0))), (q15, .inl (cy 1, 8, .inl (fun _ => 0))), (q16, .inl (cy 2, 8, .inl (fun _ => 0))), (q17, .inl (cy 2, 8, .inl (fun _ => 0))), (q18, .inl (cy 2, 8, .inl (fun _ => 0))), (q19, .inl (cy 1, 480, .inl (fun _ => 0))), (q20, .inl (cy 1, 480, .inl (fun _ => 0))), (q21, .inl (cy 0, 6, .inl (fun _ => 0)))]) H locs := hh
  refine n_putF (k := 0) (v := .ref q21) (T := TX4) (ty := (.array .char)) C0 hi hh rfl rfl hinX4 tyX4 tyX4_ok nmX4 (by decide) w57 rfl rfl (by decide +kernel) rfl rfl (Nat.le_of_ble_eq_true rfl) dX4_init_176 (fun H locs hh => ?_)
  have hh : HL D n0 s (B0 ++ [(h0, .inr (4, [.int 0, .int 0, .ref q1, .ref q2, .ref q3, .ref q4, .ref q5, .ref q6, .ref q7, .ref q8, .ref q9, .ref q10, .ref q11, .ref q12, .ref q13, .ref q14, .ref q15, .ref q16, .ref q17, .ref q18, .ref q19, .ref q20, .int 1, .int 0, .ref q21, .null, .null, .null])), (q1, .inl (cy 0, 8, .inl (fun _ => 0))), (q2, .inl (cy 0, 8, .inl (fun _ => 0))), (q3, .inl (cy 0, 8, .inl (fun _ => 0))), (q4, .inl (cy 1, 8, .inl (fun _ => 0))), (q5, .inl (cy 1, 8, .inl (fun _ => 0))), (q6, .inl (cy 1, 8, .inl (fun _ => 0))), (q7, .inl (cy 1, 8, .inl (fun _ => 0))), (q8, .inl (cy 1, 8, .inl (fun _ => 0))), (q9, .inl (cy 1, 8, .inl (fun _ => 0))), (q10, .inl (cy 1, 8, .inl (fun _ => 0))), (q11, .inl (cy 1, 8, .inl (fun _ => 0))), (q12, .inl (cy 1, 8, .inl (fun _ => 0))), (q13, .inl (cy 1, 8, .inl (fun _ => 0))), (q14, .inl (cy 1, 8, .inl (fun _ => 0))), (q15, .inl (cy 1, 8, .inl (fun _ => 0))), (q16, .inl (cy 2, 8, .inl (fun _ => 0))), (q17, .inl (cy 2, 8, .inl (fun _ => 0))), (q18, .inl (cy 2, 8, .inl (fun _ => 0))), (q19, .inl (cy 1, 480, .inl (fun _ => 0))), (q20, .inl (cy 1, 480, .inl (fun _ => 0))), (q21, .inl (cy 0, 6, .inl (fun _ => 0)))]) H locs := hh
  refine lv_aload_n C0.1.1 C0.1.2.1 dX4_init_179 rfl (lv_at hl 0 rfl) ?_
  refine lv_bipush (v := 6) C0.1.1 C0.1.2.1 dX4_init_180 (by decide) ?_
  refine n_newa (atype := .char) (ty := .char) (N := 6) (t := 0) (a0 := (6, .inl (fun _ => 0))) C0 hh w34 rfl rfl (fun _ => rfl) (by decide) (by decide +kernel) (Nat.le_of_ble_eq_true rfl) (Nat.le_of_ble_eq_true rfl) (Nat.le_of_ble_eq_true rfl) dX4_init_182 (fun q22 H hh => ?_)
  have hh : HL D n0 s (B0 ++ [(h0, .inr (4, [.int 0, .int 0, .ref q1, .ref q2, .ref q3, .ref q4, .ref q5, .ref q6, .ref q7, .ref q8, .ref q9, .ref q10, .ref q11, .ref q12, .ref q13, .ref q14, .ref q15, .ref q16, .ref q17, .ref q18, .ref q19, .ref q20, .int 1, .int 0, .ref q21, .null, .null, .null])), (q1, .inl (cy 0, 8, .inl (fun _ => 0))), (q2, .inl (cy 0, 8, .inl (fun _ => 0))), (q3, .inl (cy 0, 8, .inl (fun _ => 0))), (q4, .inl (cy 1, 8, .inl (fun _ => 0))), (q5, .inl (cy 1, 8, .inl (fun _ => 0))), (q6, .inl (cy 1, 8, .inl (fun _ => 0))), (q7, .inl (cy 1, 8, .inl (fun _ => 0))), (q8, .inl (cy 1, 8, .inl (fun _ => 0))), (q9, .inl (cy 1, 8, .inl (fun _ => 0))), (q10, .inl (cy 1, 8, .inl (fun _ => 0))), (q11, .inl (cy 1, 8, .inl (fun _ => 0))), (q12, .inl (cy 1, 8, .inl (fun _ => 0))), (q13, .inl (cy 1, 8, .inl (fun _ => 0))), (q14, .inl (cy 1, 8, .inl (fun _ => 0))), (q15, .inl (cy 1, 8, .inl (fun _ => 0))), (q16, .inl (cy 2, 8, .inl (fun _ => 0))), (q17, .inl (cy 2, 8, .inl (fun _ => 0))), (q18, .inl (cy 2, 8, .inl (fun _ => 0))), (q19, .inl (cy 1, 480, .inl (fun _ => 0))), (q20, .inl (cy 1, 480, .inl (fun _ => 0))), (q21, .inl (cy 0, 6, .inl (fun _ => 0))), (q22, .inl (cy 0, 6, .inl (fun _ => 0)))]) H locs := hh
  refine n_putF (k := 0) (v := .ref q22) (T := TX4) (ty := (.array .char)) C0 hi hh rfl rfl hinX4 tyX4 tyX4_ok nmX4 (by decide) w58 rfl rfl (by decide +kernel) rfl rfl (Nat.le_of_ble_eq_true rfl) dX4_init_184 (fun H locs hh => ?_)
  have hh : HL D n0 s (B0 ++ [(h0, .inr (4, [.int 0, .int 0, .ref q1, .ref q2, .ref q3, .ref q4, .ref q5, .ref q6, .ref q7, .ref q8, .ref q9, .ref q10, .ref q11, .ref q12, .ref q13, .ref q14, .ref q15, .ref q16, .ref q17, .ref q18, .ref q19, .ref q20, .int 1, .int 0, .ref q21, .ref q22, .null, .null])), (q1, .inl (cy 0, 8, .inl (fun _ => 0))), (q2, .inl (cy 0, 8, .inl (fun _ => 0))), (q3, .inl (cy 0, 8, .inl (fun _ => 0))), (q4, .inl (cy 1, 8, .inl (fun _ => 0))), (q5, .inl (cy 1, 8, .inl (fun _ => 0))), (q6, .inl (cy 1, 8, .inl (fun _ => 0))), (q7, .inl (cy 1, 8, .inl (fun _ => 0))), (q8, .inl (cy 1, 8, .inl (fun _ => 0))), (q9, .inl (cy 1, 8, .inl (fun _ => 0))), (q10, .inl (cy 1, 8, .inl (fun _ => 0))), (q11, .inl (cy 1, 8, .inl (fun _ => 0))), (q12, .inl (cy 1, 8, .inl (fun _ => 0))), (q13, .inl (cy 1, 8, .inl (fun _ => 0))), (q14, .inl (cy 1, 8, .inl (fun _ => 0))), (q15, .inl (cy 1, 8, .inl (fun _ => 0))), (q16, .inl (cy 2, 8, .inl (fun _ => 0))), (q17, .inl (cy 2, 8, .inl (fun _ => 0))), (q18, .inl (cy 2, 8, .inl (fun _ => 0))), (q19, .inl (cy 1, 480, .inl (fun _ => 0))), (q20, .inl (cy 1, 480, .inl (fun _ => 0))), (q21, .inl (cy 0, 6, .inl (fun _ => 0))), (q22, .inl (cy 0, 6, .inl (fun _ => 0)))]) H locs := hh
  refine lv_aload_n C0.1.1 C0.1.2.1 dX4_init_187 rfl (lv_at hl 0 rfl) ?_
  refine lv_bipush (v := 6) C0.1.1 C0.1.2.1 dX4_init_188 (by decide) ?_
  refine n_newa (atype := .int) (ty := .int) (N := 6) (t := 1) (a0 := (6, .inl (fun _ => 0))) C0 hh w3 rfl rfl (fun _ => rfl) (by decide) (by decide +kernel) (Nat.le_of_ble_eq_true rfl) (Nat.le_of_ble_eq_true rfl) (Nat.le_of_ble_eq_true rfl) dX4_init_190 (fun q23 H hh => ?_)
  have hh : HL D n0 s (B0 ++ [(h0, .inr (4, [.int 0, .int 0, .ref q1, .ref q2, .ref q3, .ref q4, .ref q5, .ref q6, .ref q7, .ref q8, .ref q9, .ref q10, .ref q11, .ref q12, .ref q13, .ref q14, .ref q15, .ref q16, .ref q17, .ref q18, .ref q19, .ref q20, .int 1, .int 0, .ref q21, .ref q22, .null, .null])), (q1, .inl (cy 0, 8, .inl (fun _ => 0))), (q2, .inl (cy 0, 8, .inl (fun _ => 0))), (q3, .inl (cy 0, 8, .inl (fun _ => 0))), (q4, .inl (cy 1, 8, .inl (fun _ => 0))), (q5, .inl (cy 1, 8, .inl (fun _ => 0))), (q6, .inl (cy 1, 8, .inl (fun _ => 0))), (q7, .inl (cy 1, 8, .inl (fun _ => 0))), (q8, .inl (cy 1, 8, .inl (fun _ => 0))), (q9, .inl (cy 1, 8, .inl (fun _ => 0))), (q10, .inl (cy 1, 8, .inl (fun _ => 0))), (q11, .inl (cy 1, 8, .inl (fun _ => 0))), (q12, .inl (cy 1, 8, .inl (fun _ => 0))), (q13, .inl (cy 1, 8, .inl (fun _ => 0))), (q14, .inl (cy 1, 8, .inl (fun _ => 0))), (q15, .inl (cy 1, 8, .inl (fun _ => 0))), (q16, .inl (cy 2, 8, .inl (fun _ => 0))), (q17, .inl (cy 2, 8, .inl (fun _ => 0))), (q18, .inl (cy 2, 8, .inl (fun _ => 0))), (q19, .inl (cy 1, 480, .inl (fun _ => 0))), (q20, .inl (cy 1, 480, .inl (fun _ => 0))), (q21, .inl (cy 0, 6, .inl (fun _ => 0))), (q22, .inl (cy 0, 6, .inl (fun _ => 0))), (q23, .inl (cy 1, 6, .inl (fun _ => 0)))]) H locs := hh
  refine n_putF (k := 0) (v := .ref q23) (T := TX4) (ty := (.array .int)) C0 hi hh rfl rfl hinX4 tyX4 tyX4_ok nmX4 (by decide) w59 rfl rfl (by decide +kernel) rfl rfl (Nat.le_of_ble_eq_true rfl) dX4_init_192 (fun H locs hh => ?_)
  have hh : HL D n0 s (B0 ++ [(h0, .inr (4, [.int 0, .int 0, .ref q1, .ref q2, .ref q3, .ref q4, .ref q5, .ref q6, .ref q7, .ref q8, .ref q9, .ref q10, .ref q11, .ref q12, .ref q13, .ref q14, .ref q15, .ref q16, .ref q17, .ref q18, .ref q19, .ref q20, .int 1, .int 0, .ref q21, .ref q22, .ref q23, .null])), (q1, .inl (cy 0, 8, .inl (fun _ => 0))), (q2, .inl (cy 0, 8, .inl (fun _ => 0))), (q3, .inl (cy 0, 8, .inl (fun _ => 0))), (q4, .inl (cy 1, 8, .inl (fun _ => 0))), (q5, .inl (cy 1, 8, .inl (fun _ => 0))), (q6, .inl (cy 1, 8, .inl (fun _ => 0))), (q7, .inl (cy 1, 8, .inl (fun _ => 0))), (q8, .inl (cy 1, 8, .inl (fun _ => 0))), (q9, .inl (cy 1, 8, .inl (fun _ => 0))), (q10, .inl (cy 1, 8, .inl (fun _ => 0))), (q11, .inl (cy 1, 8, .inl (fun _ => 0))), (q12, .inl (cy 1, 8, .inl (fun _ => 0))), (q13, .inl (cy 1, 8, .inl (fun _ => 0))), (q14, .inl (cy 1, 8, .inl (fun _ => 0))), (q15, .inl (cy 1, 8, .inl (fun _ => 0))), (q16, .inl (cy 2, 8, .inl (fun _ => 0))), (q17, .inl (cy 2, 8, .inl (fun _ => 0))), (q18, .inl (cy 2, 8, .inl (fun _ => 0))), (q19, .inl (cy 1, 480, .inl (fun _ => 0))), (q20, .inl (cy 1, 480, .inl (fun _ => 0))), (q21, .inl (cy 0, 6, .inl (fun _ => 0))), (q22, .inl (cy 0, 6, .inl (fun _ => 0))), (q23, .inl (cy 1, 6, .inl (fun _ => 0)))]) H locs := hh
  refine lv_aload_n C0.1.1 C0.1.2.1 dX4_init_195 rfl (lv_at hl 0 rfl) ?_
  refine lv_bipush (v := 6) C0.1.1 C0.1.2.1 dX4_init_196 (by decide) ?_
  refine n_newa (atype := .int) (ty := .int) (N := 6) (t := 1) (a0 := (6, .inl (fun _ => 0))) C0 hh w3 rfl rfl (fun _ => rfl) (by decide) (by decide +kernel) (Nat.le_of_ble_eq_true rfl) (Nat.le_of_ble_eq_true rfl) (Nat.le_of_ble_eq_true rfl) dX4_init_198 (fun q24 H hh => ?_)
  have hh : HL D n0 s (B0 ++ [(h0, .inr (4, [.int 0, .int 0, .ref q1, .ref q2, .ref q3, .ref q4, .ref q5, .ref q6, .ref q7, .ref q8, .ref q9, .ref q10, .ref q11, .ref q12, .ref q13, .ref q14, .ref q15, .ref q16, .ref q17, .ref q18, .ref q19, .ref q20, .int 1, .int 0, .ref q21, .ref q22, .ref q23, .null])), (q1, .inl (cy 0, 8, .inl (fun _ => 0))), (q2, .inl (cy 0, 8, .inl (fun _ => 0))), (q3, .inl (cy 0, 8, .inl (fun _ => 0))), (q4, .inl (cy 1, 8, .inl (fun _ => 0))), (q5, .inl (cy 1, 8, .inl (fun _ => 0))), (q6, .inl (cy 1, 8, .inl (fun _ => 0))), (q7, .inl (cy 1, 8, .inl (fun _ => 0))), (q8, .inl (cy 1, 8, .inl (fun _ => 0))), (q9, .inl (cy 1, 8, .inl (fun _ => 0))), (q10, .inl (cy 1, 8, .inl (fun _ => 0))), (q11, .inl (cy 1, 8, .inl (fun _ => 0))), (q12, .inl (cy 1, 8, .inl (fun _ => 0))), (q13, .inl (cy 1, 8, .inl (fun _ => 0))), (q14, .inl (cy 1, 8, .inl (fun _ => 0))), (q15, .inl (cy 1, 8, .inl (fun _ => 0))), (q16, .inl (cy 2, 8, .inl (fun _ => 0))), (q17, .inl (cy 2, 8, .inl (fun _ => 0))), (q18, .inl (cy 2, 8, .inl (fun _ => 0))), (q19, .inl (cy 1, 480, .inl (fun _ => 0))), (q20, .inl (cy 1, 480, .inl (fun _ => 0))), (q21, .inl (cy 0, 6, .inl (fun _ => 0))), (q22, .inl (cy 0, 6, .inl (fun _ => 0))), (q23, .inl (cy 1, 6, .inl (fun _ => 0))), (q24, .inl (cy 1, 6, .inl (fun _ => 0)))]) H locs := hh
  refine n_putF (k := 0) (v := .ref q24) (T := TX4) (ty := (.array .int)) C0 hi hh rfl rfl hinX4 tyX4 tyX4_ok nmX4 (by decide) w60 rfl rfl (by decide +kernel) rfl rfl (Nat.le_of_ble_eq_true rfl) dX4_init_200 (fun H locs hh => ?_)
  have hh : HL D n0 s (B0 ++ [(h0, .inr (4, [.int 0, .int 0, .ref q1, .ref q2, .ref q3, .ref q4, .ref q5, .ref q6, .ref q7, .ref q8, .ref q9, .ref q10, .ref q11, .ref q12, .ref q13, .ref q14, .ref q15, .ref q16, .ref q17, .ref q18, .ref q19, .ref q20, .int 1, .int 0, .ref q21, .ref q22, .ref q23, .ref q24])), (q1, .inl (cy 0, 8, .inl (fun _ => 0))), (q2, .inl (cy 0, 8, .inl (fun _ => 0))), (q3, .inl (cy 0, 8, .inl (fun _ => 0))), (q4, .inl (cy 1, 8, .inl (fun _ => 0))), (q5, .inl (cy 1, 8, .inl (fun _ => 0))), (q6, .inl (cy 1, 8, .inl (fun _ => 0))), (q7, .inl (cy 1, 8, .inl (fun _ => 0))), (q8, .inl (cy 1, 8, .inl (fun _ => 0))), (q9, .inl (cy 1, 8, .inl (fun _ => 0))), (q10, .inl (cy 1, 8, .inl (fun _ => 0))), (q11, .inl (cy 1, 8, .inl (fun _ => 0))), (q12, .inl (cy 1, 8, .inl (fun _ => 0))), (q13, .inl (cy 1, 8, .inl (fun _ => 0))), (q14, .inl (cy 1, 8, .inl (fun _ => 0))), (q15, .inl (cy 1, 8, .inl (fun _ => 0))), (q16, .inl (cy 2, 8, .inl (fun _ => 0))), (q17, .inl (cy 2, 8, .inl (fun _ => 0))), (q18, .inl (cy 2, 8, .inl (fun _ => 0))), (q19, .inl (cy 1, 480, .inl (fun _ => 0))), (q20, .inl (cy 1, 480, .inl (fun _ => 0))), (q21, .inl (cy 0, 6, .inl (fun _ => 0))), (q22, .inl (cy 0, 6, .inl (fun _ => 0))), (q23, .inl (cy 1, 6, .inl (fun _ => 0))), (q24, .inl (cy 1, 6, .inl (fun _ => 0)))]) H locs := hh
  exact n_vret C0 hh ⟨q1, q2, q3, q4, q5, q6, q7, q8, q9, q10, q11, q12, q13, q14, q15, q16, q17, q18, q19, q20, q21, q22, q23, q24, rfl⟩ hR (Nat.le_of_ble_eq_true rfl) (Nat.le_of_ble_eq_true rfl) dX4_init_203
end
