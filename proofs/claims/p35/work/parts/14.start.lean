theorem w780 : Cond.instantiable RX3 6 ∈ allw := tw 20 (by decide +kernel) (by decide +kernel)
theorem w781 : Cond.instantiable RX4 28 ∈ allw := tw 779 (by decide +kernel) (by decide +kernel)
theorem w782 : Cond.arrayClass .long ∈ allw := tw 1089 (by decide +kernel) (by decide +kernel)
theorem w783 : Cond.arrayClass .double ∈ allw := tw 1090 (by decide +kernel) (by decide +kernel)
theorem w784 : Cond.initialized Bundle.tN ∈ allw := tw 4 (by decide +kernel) (by decide +kernel)
theorem w785 : Cond.classLink RL 8 RX3 ∈ allw := tw 19 (by decide +kernel) (by decide +kernel)
theorem w786 : Cond.methodLink RL 133 yX3_init ∈ allw := tw 21 (by decide +kernel) (by decide +kernel)
theorem w787 : Cond.code yX3_init cX3_init 1 none ∈ allw := tw 23 (by decide +kernel) (by decide +kernel)
theorem w788 : Cond.instanceMethod yX3_init ∈ allw := tw 22 (by decide +kernel) (by decide +kernel)
theorem w789 : Cond.classLink RL 134 RX4 ∈ allw := tw 778 (by decide +kernel) (by decide +kernel)
theorem w790 : Cond.methodLink RL 136 yX4_init ∈ allw := tw 780 (by decide +kernel) (by decide +kernel)
theorem w791 : Cond.code yX4_init cX4_init 1 none ∈ allw := tw 782 (by decide +kernel) (by decide +kernel)
theorem w792 : Cond.instanceMethod yX4_init ∈ allw := tw 781 (by decide +kernel) (by decide +kernel)
theorem qc173 {R : Room} {s : State} {args : Array Value} (ht : ∀ w ∈ allw, w.before args s = true) (hR : (rmX3_init).frames + 1 ≤ R.frames ∧ 8 + (1 + 11) + (rmX3_init).locals ≤ R.locals) : CallB R s args RL 133 yX3_init cX3_init 1 none (wm yX3_init cX3_init 1 none) rmX3_init 6 202 0 ∧ yX3_init.name = "<init>" ∧ (Cond.instanceMethod yX3_init).before args s = true := cwI 0 ht (gd_of (fun _ h => h) _ (mC0 w787)) rfl rfl rfl (ht _ w64) (ht _ w786) (ht _ w788) rfl (by decide +kernel) hR
theorem qc174 {R : Room} {s : State} {args : Array Value} (ht : ∀ w ∈ allw, w.before args s = true) (hR : (rmX4_init).frames + 1 ≤ R.frames ∧ 8 + (1 + 11) + (rmX4_init).locals ≤ R.locals) : CallB R s args RL 136 yX4_init cX4_init 1 none (wm yX4_init cX4_init 1 none) rmX4_init 24 1128 0 ∧ yX4_init.name = "<init>" ∧ (Cond.instanceMethod yX4_init).before args s = true := cwI 0 ht (gd_of (fun _ h => h) _ (mC0 w791)) rfl rfl rfl (ht _ w310) (ht _ w790) (ht _ w792) rfl (by decide +kernel) hR
/-! THE CLAIM OUT OF ONE WALK OF THE LAW'S BODY. Your part is whole_start (and what it stands on); all else here is the same for every law, but numbers. -/
def R_law : String := "TeethrowLaw"
def lw_P (b : Addr) (xs : List Int32) (args : Array Value) (s : State) : Prop := args = #[.ref b] ∧ s.IntsAt b xs ∧ xs.length ≤ 2560 ∧ (Jvm.Cond.and given_1 narrow_1).before args s = true
/-- what a walk over the start with the record d0 says of its end, said of the start itself -/
theorem lw_closed {s t : State} {o : Outcome} {d0 : Drawn} {L : List Loc} {k n : Nat} (hd0 : s.drawn.sameBut d0 lw_cs) (hv : ∃ v, o = .returned v) (hW : (s.setDrawn d0).WarmedH t.vm) (hs : (s.setDrawn d0).sameButNew ({ t with vm := s.vm } : State) L k n) : State.butDraws s t lw_cs (fun t1 => Framed s o t1 L k n) := by
  have h2 : t.drawn = d0 := congrArg State.drawn hs.1
  refine ⟨⟨hv, hW, State.sameButNew.setDrawn hs s.drawn⟩, ?_, by decide⟩
  rw [h2]
  exact hd0
def lw_Q (_ : Array Value) (s : State) (o : Outcome) (t : State) : Prop := o = .returned (some (.int 1)) ∧ State.butDraws s t lw_cs (fun t1 => Framed s o t1 [] 603072 7231594)
def lw_Z (below : List Frame) (a : Array Value) (s : State) : State → Prop := fun t => ∃ o, t.status = .running ∧ Ended t below o ∧ lw_Q a s o t
/-- the law's own end, with 1 on the stack, nothing written that was there before, its room as the claim has it; d0: the record of draws at this point (at the entry s.drawn: begin with 'refine W.base ?_' and 'have hd0 := Drawn.sameBut.refl s.drawn lw_cs') -/
theorem lw_ret {p : Program} {l : Launch} {e : Env} {s : State} {m : MethodId} {below : List Frame} {meth : Method} {c : Code} {b : Nat} {d0 : Drawn} (hd0 : s.drawn.sameBut d0 lw_cs) (hx : p.tables.exec = Jvm.exec) (hb : c.code = code) (hr : meth.sig.returnType = ret) (hlocks : meth.locks = false) {pc : Nat} {H : Heap} {ls : Array Slot} (hdg : decode code pc = .ok (.ireturn, 1)) : W p l e room_1 (s.setDrawn d0) m #[Value.ref b] below meth c H [] 603072 7231594 (lw_Z below #[Value.ref b] s) (F0 m pc ls [.int 1]) := by
  intro T hT X
  obtain ⟨fs, hret, hrun, hended, hW, hframe⟩ := X.leave (v := some (.int 1)) (hlocks := hlocks) (fun h => by rw [hr] at h; cases h)
  have hmeth' : T.vm.method? m = some meth := X.method'
  refine ⟨T.setFrames fs, ?_, .returned (some (.int 1)), hrun, hended, rfl, lw_closed hd0 ⟨_, rfl⟩ hW hframe⟩
  jvm_step X.here [X.here.top, hx, hb, hdg, hmeth', hr, ret, narrow_b1]
  (try refine ⟨rfl, ?_⟩); (try refine ⟨rfl, ?_⟩)
  first | (intro acts; rw [hret _ acts rfl rfl rfl]) | rw [hret _ _ rfl rfl rfl]
  exact Steps.refl _
/-- what holds at the law's entry: the machine, the code, the tables' words (any of lw_tbl by 'hts w (by decide +kernel)'), the script of L ints xs at the cell b, what the Statement gives of the start (any of its parts by flat_of_before) -/
def lw_At (p : Program) (s : State) (m : MethodId) (meth : Method) (c : Code) (b L : Nat) (xs : Nat → Int32) : Prop :=
  p.tables.exec = Jvm.exec ∧ c.code = code ∧ meth.sig.returnType = ret ∧ c.maxLocals = 9 ∧ s.vm.findClass R_law = some m.cls ∧ (∀ w ∈ lw_tbl, w.before #[Value.ref b] s = true) ∧ va_X b L xs s s.heap ∧ b < s.heap.size ∧ meth.locks = false ∧ (Jvm.Cond.and given_1 narrow_1).before #[Value.ref b] s = true
theorem st_str : ∀ q ∈ strl, Cond.stringRef RX3 q.1 q.2 ∈ tables_1 := by decide +kernel
theorem st_exa : ∀ q ∈ strl, Cond.exactly (.string RX3 q.1) "java/lang/String" ∈ flatC (Jvm.Cond.and given_1 narrow_1) := by decide +kernel
theorem st_ncl : ∀ q ∈ ncl, Cond.not (.castable (exn q.1) (exn q.2)) ∈ flatC (Jvm.Cond.and given_1 narrow_1) := by decide +kernel
theorem st_u : Cond.isRef (.static Bundle.tN "UNASSIGNED_STACK" Bundle.steD) ∈ flatC (Jvm.Cond.and given_1 narrow_1) := by decide +kernel
theorem st_s : Cond.isRef (.static Bundle.tN "SUPPRESSED_SENTINEL" Bundle.listD) ∈ flatC (Jvm.Cond.and given_1 narrow_1) := by decide +kernel
set_option maxRecDepth 100000 in
set_option maxHeartbeats 4000000 in
theorem law_cx {p : Program} {s : State} {m : MethodId} {meth : Method} {c : Code} {l : Launch} {b L : Nat} {xs : Nat → Int32} (hflags : l.flags = flags0) (C0 : lw_At p s m meth c b L xs) : ∃ (D : va_G) (cy : Nat → ClassId), Cx p l s m #[Value.ref b] meth c cL_law 9 RL D cy s.heap.size := by
  obtain ⟨hx, hb, hr, hml, hown, hts, hX, hbl, hlocks, hgv⟩ := id C0
  have hta : ∀ w ∈ allw, w.before #[Value.ref b] s = true := fun w hw => hts w (List.mem_filter.mp hw).1
  have hgf := flat_of_before _ hgv
  obtain ⟨c0, i0, k0⟩ := u_known (C := RX0) (T := TX0) (N := 4) (n := 4) hta hinX0 (hta _ w174)
  obtain ⟨c1, i1, k1⟩ := u_known (C := RX1) (T := TX1) (N := 8) (n := 8) hta hinX1 (hta _ w14)
  obtain ⟨c2, i2, k2⟩ := u_known (C := RX2) (T := TX2) (N := 14) (n := 14) hta hinX2 (hta _ w169)
  obtain ⟨c3, i3, k3⟩ := u_known (C := RX3) (T := TX3) (N := 6) (n := 6) hta hinX3 (hta _ w780)
  obtain ⟨c4, i4, k4⟩ := u_known (C := RX4) (T := TX4) (N := 28) (n := 28) hta hinX4 (hta _ w781)
  obtain ⟨a0, ka0, p0, n0, m0, q0⟩ := Cond.arrayClass_spec (hta _ w34)
  obtain ⟨a1, ka1, p1, n1, m1, q1⟩ := Cond.arrayClass_spec (hta _ w3)
  obtain ⟨a2, ka2, p2, n2, m2, q2⟩ := Cond.arrayClass_spec (hta _ w50)
  obtain ⟨a3, ka3, p3, n3, m3, q3⟩ := Cond.arrayClass_spec (hta _ w782)
  obtain ⟨a4, ka4, p4, n4, m4, q4⟩ := Cond.arrayClass_spec (hta _ w783)
  have hao : (Cond.arrayOver (.object RX0)).before #[Value.ref b] s = true := hts _ (List.mem_append_right _ (List.mem_of_getElem? (i := 30) (by decide +kernel)))
  have hat : (Cond.arrayOver (.object RX2)).before #[Value.ref b] s = true := hts _ (List.mem_append_right _ (List.mem_of_getElem? (i := 28) (by decide +kernel)))
  obtain ⟨p5, a5, ka5, f5, g5, m5, q5, n5⟩ := Cond.arrayOver_spec hao
  obtain ⟨p6, a6, ka6, f6, g6, m6, q6, n6⟩ := Cond.arrayOver_spec hat
  refine ⟨(fun k => if k = 0 then c0 else if k = 1 then c1 else if k = 2 then c2 else if k = 3 then c3 else c4, fun k => if k = 0 then i0 else if k = 1 then i1 else if k = 2 then i2 else if k = 3 then i3 else i4), fun k => if k = 0 then a0 else if k = 1 then a1 else if k = 2 then a2 else if k = 3 then a5 else if k = 4 then a6 else if k = 5 then a3 else a4, ⟨hx, hb, hml, hown, hta⟩, hlocks, ⟨?_, ?_⟩, Nat.le_refl _, ⟨?_, ?_⟩, ⟨?_, ?_, ?_, va_AO.of hat, va_AO.of hao⟩, ?_⟩
  · intro k q hq
    match k, hq with
    | 0, hq => cases hq; exact k0
    | 1, hq => cases hq; exact k1
    | 2, hq => cases hq; exact k2
    | 3, hq => cases hq; exact k3
    | 4, hq => cases hq; exact k4
    | k + 5, hq => simp [kcl] at hq
  · intro k q hq
    match k, hq with
    | 0, hq => cases hq; exact ⟨fun N z => ⟨(fun k h => by cases h), ka0, m0, p0, q0⟩, n0⟩
    | 1, hq => cases hq; exact ⟨fun N z => ⟨(fun k h => by cases h), ka1, m1, p1, q1⟩, n1⟩
    | 2, hq => cases hq; exact ⟨fun N z => ⟨(fun k h => by cases h), ka2, m2, p2, q2⟩, n2⟩
    | 3, hq => cases hq; exact ⟨fun N z => ⟨(fun k h => by cases h), ka5, m5, p5, q5⟩, ka5, p5, m5, q5, f5, n5⟩
    | 4, hq => cases hq; exact ⟨fun N z => ⟨(fun k h => by cases h), ka6, m6, p6, q6⟩, ka6, p6, m6, q6, f6, n6⟩
    | 5, hq => cases hq; exact ⟨fun N z => ⟨(fun k h => by cases h), ka3, m3, p3, q3⟩, n3⟩
    | 6, hq => cases hq; exact ⟨fun N z => ⟨(fun k h => by cases h), ka4, m4, p4, q4⟩, n4⟩
    | k + 7, hq => simp [tyl] at hq
  · exact vx_Zqof (hts _ (List.mem_append_right _ (List.mem_of_getElem? (i := 214) (by decide +kernel)))) (hta _ w784) (hgf _ st_u) (fun a h => Nat.not_le.mpr h)
  · exact vx_Zqof (hts _ (List.mem_append_right _ (List.mem_of_getElem? (i := 216) (by decide +kernel)))) (hta _ w784) (hgf _ st_s) (fun a h => Nat.not_le.mpr h)
  · intro w hw; exact va_Nw.of (nwk_tab (List.mem_filter.mp hw).2) (hts w (List.mem_append_right _ (List.mem_filter.mp hw).1))
  · intro q hq
    obtain ⟨a, c9, cell, k9, h1, -⟩ := Cond.exactly_spec (hgf _ (st_exa q hq))
    exact ⟨a, vk_R.of (hts _ (List.mem_append_right _ (st_str q hq))) h1⟩
  · intro q hq; exact va_Nc.of (hgf _ (st_ncl q hq))
  · unfold Launch.stackTraces; rw [hflags]; decide +kernel
def ad0 (v0 v1 v2 v3 v4 v5 v6 v7 v8 v9 v10 v11 v12 v13 v14 v15 v16 v17 v18 v19 v20 v21 v22 v23 v24 v25 v26 v27 v28 v29 v30 v31 v32 v33 : Nat) : Nat → Nat → Nat := fun k i => match k with
  | 0 => v0
  | 10 => v1
  | 11 => v2
  | 2 => v3
  | 3 => v4
  | 4 => v5
  | 5 => v6
  | 7 => v7
  | 8 => (match i with
    | 2 => v8
    | 3 => v9
    | 4 => v10
    | 5 => v11
    | 6 => v12
    | 7 => v13
    | 8 => v14
    | 9 => v15
    | 10 => v16
    | 11 => v17
    | 12 => v18
    | 13 => v19
    | 14 => v20
    | 15 => v21
    | 16 => v22
    | 17 => v23
    | 18 => v24
    | 19 => v25
    | 20 => v26
    | 21 => v27
    | 24 => v28
    | 25 => v29
    | 26 => v30
    | _ => v31)
  | 12 => v32
  | _ => v33
def sg0 : Sg := (fun k i => if k = 7 ∧ i = 0 then upd (fun _ => 0) 22 1 else fun _ => 0, 1, 0, 0)
theorem nn_f (f : Nat → Nat) : (fun j : Nat => if (0 : Int32) = 0 then (none : Option Nat) else some (f j)) = fun _ => none := funext fun _ => if_pos rfl
theorem zz_l : (fun j : Nat => if j = 0 then (0 : Int64) else 0) = fun _ => 0 := funext fun j => by split <;> rfl
theorem zz_d : (fun j : Nat => if j = 0 then (0 : UInt64) else 0) = fun _ => 0 := funext fun j => by split <;> rfl
set_option maxRecDepth 100000 in
set_option maxHeartbeats 4000000 in
theorem wd0 {cy : Nat → ClassId} (v0 v1 v2 v3 v4 v5 v6 v7 v8 v9 v10 v11 v12 v13 v14 v15 v16 v17 v18 v19 v20 v21 v22 v23 v24 v25 v26 v27 v28 v29 v30 v31 v32 v33 : Nat) : wd (ad0 v0 v1 v2 v3 v4 v5 v6 v7 v8 v9 v10 v11 v12 v13 v14 v15 v16 v17 v18 v19 v20 v21 v22 v23 v24 v25 v26 v27 v28 v29 v30 v31 v32 v33) cy sg0 0 0 = [(v0, .inr (3, [.ref v1, .int 0, .ref v2, .int 0, .long 1, .ref v3])), (v1, .inl (cy 4, 8, .inr (.inr (.inr (.inr (fun _ => none)))))), (v2, .inl (cy 3, 6, .inr (.inr (.inr (.inr (fun _ => none)))))), (v3, .inr (1, [.int 0, .int 0, .int 0, .int 0, .int 0, .ref v4, .ref v5, .ref v6])), (v4, .inl (cy 1, 60, .inl (fun _ => 0))), (v5, .inl (cy 1, 60, .inl (fun _ => 0))), (v6, .inl (cy 1, 60, .inl (fun _ => 0))), (v7, .inr (4, [.int 0, .int 0, .ref v8, .ref v9, .ref v10, .ref v11, .ref v12, .ref v13, .ref v14, .ref v15, .ref v16, .ref v17, .ref v18, .ref v19, .ref v20, .ref v21, .ref v22, .ref v23, .ref v24, .ref v25, .ref v26, .ref v27, .int 1, .int 0, .ref v28, .ref v29, .ref v30, .ref v31])), (v8, .inl (cy 0, 8, .inl (fun _ => 0))), (v9, .inl (cy 0, 8, .inl (fun _ => 0))), (v10, .inl (cy 0, 8, .inl (fun _ => 0))), (v11, .inl (cy 1, 8, .inl (fun _ => 0))), (v12, .inl (cy 1, 8, .inl (fun _ => 0))), (v13, .inl (cy 1, 8, .inl (fun _ => 0))), (v14, .inl (cy 1, 8, .inl (fun _ => 0))), (v15, .inl (cy 1, 8, .inl (fun _ => 0))), (v16, .inl (cy 1, 8, .inl (fun _ => 0))), (v17, .inl (cy 1, 8, .inl (fun _ => 0))), (v18, .inl (cy 1, 8, .inl (fun _ => 0))), (v19, .inl (cy 1, 8, .inl (fun _ => 0))), (v20, .inl (cy 1, 8, .inl (fun _ => 0))), (v21, .inl (cy 1, 8, .inl (fun _ => 0))), (v22, .inl (cy 1, 8, .inl (fun _ => 0))), (v23, .inl (cy 2, 8, .inl (fun _ => 0))), (v24, .inl (cy 2, 8, .inl (fun _ => 0))), (v25, .inl (cy 2, 8, .inl (fun _ => 0))), (v26, .inl (cy 1, 480, .inl (fun _ => 0))), (v27, .inl (cy 1, 480, .inl (fun _ => 0))), (v28, .inl (cy 0, 6, .inl (fun _ => 0))), (v29, .inl (cy 0, 6, .inl (fun _ => 0))), (v30, .inl (cy 1, 6, .inl (fun _ => 0))), (v31, .inl (cy 1, 6, .inl (fun _ => 0))), (v32, .inl (cy 5, 1, .inr (.inl (fun _ => 0)))), (v33, .inl (cy 6, 1, .inr (.inr (.inr (.inl (fun _ => 0))))))] := by
  have h : wd (ad0 v0 v1 v2 v3 v4 v5 v6 v7 v8 v9 v10 v11 v12 v13 v14 v15 v16 v17 v18 v19 v20 v21 v22 v23 v24 v25 v26 v27 v28 v29 v30 v31 v32 v33) cy sg0 0 0 = [(v0, .inr (3, [.ref v1, .int 0, .ref v2, .int 0, .long 1, .ref v3])), (v1, .inl (cy 4, 8, .inr (.inr (.inr (.inr (fun j => if (0 : Int32) = 0 then none else some ((ad0 v0 v1 v2 v3 v4 v5 v6 v7 v8 v9 v10 v11 v12 v13 v14 v15 v16 v17 v18 v19 v20 v21 v22 v23 v24 v25 v26 v27 v28 v29 v30 v31 v32 v33) 1 j))))))), (v2, .inl (cy 3, 6, .inr (.inr (.inr (.inr (fun j => if (0 : Int32) = 0 then none else some ((ad0 v0 v1 v2 v3 v4 v5 v6 v7 v8 v9 v10 v11 v12 v13 v14 v15 v16 v17 v18 v19 v20 v21 v22 v23 v24 v25 v26 v27 v28 v29 v30 v31 v32 v33) 6 j))))))), (v3, .inr (1, [.int 0, .int 0, .int 0, .int 0, .int 0, .ref v4, .ref v5, .ref v6])), (v4, .inl (cy 1, 60, .inl (fun _ => 0))), (v5, .inl (cy 1, 60, .inl (fun _ => 0))), (v6, .inl (cy 1, 60, .inl (fun _ => 0))), (v7, .inr (4, [.int 0, .int 0, .ref v8, .ref v9, .ref v10, .ref v11, .ref v12, .ref v13, .ref v14, .ref v15, .ref v16, .ref v17, .ref v18, .ref v19, .ref v20, .ref v21, .ref v22, .ref v23, .ref v24, .ref v25, .ref v26, .ref v27, .int 1, .int 0, .ref v28, .ref v29, .ref v30, .ref v31])), (v8, .inl (cy 0, 8, .inl (fun _ => 0))), (v9, .inl (cy 0, 8, .inl (fun _ => 0))), (v10, .inl (cy 0, 8, .inl (fun _ => 0))), (v11, .inl (cy 1, 8, .inl (fun _ => 0))), (v12, .inl (cy 1, 8, .inl (fun _ => 0))), (v13, .inl (cy 1, 8, .inl (fun _ => 0))), (v14, .inl (cy 1, 8, .inl (fun _ => 0))), (v15, .inl (cy 1, 8, .inl (fun _ => 0))), (v16, .inl (cy 1, 8, .inl (fun _ => 0))), (v17, .inl (cy 1, 8, .inl (fun _ => 0))), (v18, .inl (cy 1, 8, .inl (fun _ => 0))), (v19, .inl (cy 1, 8, .inl (fun _ => 0))), (v20, .inl (cy 1, 8, .inl (fun _ => 0))), (v21, .inl (cy 1, 8, .inl (fun _ => 0))), (v22, .inl (cy 1, 8, .inl (fun _ => 0))), (v23, .inl (cy 2, 8, .inl (fun _ => 0))), (v24, .inl (cy 2, 8, .inl (fun _ => 0))), (v25, .inl (cy 2, 8, .inl (fun _ => 0))), (v26, .inl (cy 1, 480, .inl (fun _ => 0))), (v27, .inl (cy 1, 480, .inl (fun _ => 0))), (v28, .inl (cy 0, 6, .inl (fun _ => 0))), (v29, .inl (cy 0, 6, .inl (fun _ => 0))), (v30, .inl (cy 1, 6, .inl (fun _ => 0))), (v31, .inl (cy 1, 6, .inl (fun _ => 0))), (v32, .inl (cy 5, 1, .inr (.inl (fun j => if j = 0 then 0 else 0)))), (v33, .inl (cy 6, 1, .inr (.inr (.inr (.inl (fun j => if j = 0 then 0 else 0))))))] := rfl
  rw [h, nn_f, nn_f, zz_l, zz_d]
theorem iv0 : Iv 0 0 sg0 := ⟨⟨fun j h => absurd rfl h, fun j h => absurd rfl h⟩, by decide, by decide⟩
set_option maxRecDepth 100000 in
set_option maxHeartbeats 8000000 in
/-- THE LAW, from its entry: where its function says so, it comes to its end with true -/
theorem law_walk {p : Program} {e : Env} {s : State} {m : MethodId} {below : List Frame} {meth : Method} {c : Code} (l : Launch) (hflags : l.flags = flags0) {b L : Nat} {xs : Nat → Int32} (hres : f_law_loop L xs 513 sg0 0 = some ()) (C0 : lw_At p s m meth c b L xs) : W p l e room_1 s m #[Value.ref b] below meth c s.heap [] 0 0 (lw_Z below #[Value.ref b] s) (entryFrame m ([Value.ref b] : List Value).toArray 9) := by
  obtain ⟨hx, hb, hr, hml, hown, hts, hX, hbl, hlocks, hgv⟩ := id C0
  obtain ⟨D, cy, C1⟩ := law_cx hflags C0
  have hl := lv_entry ([.ref b]) (n := 9) (Nat.le_of_ble_eq_true rfl)
  rw [lg_entry_eq]
  generalize (lg_sl ([.ref b]) ++ List.replicate (9 - (lg_sl ([.ref b])).length) Slot.unset).toArray = ls at hl ⊢
  have hl : lv_has ls 9 [(0, .ref b)] := hl
  have hh : HL D s.heap.size s ([] ++ []) s.heap [] := ⟨fun k q h => by simp at h, ⟨fun i j p q h => by simp at h, fun k q h => by simp at h⟩, va_S.rf⟩
  generalize hlo : ([] : List Loc) = locs at hh ⊢
  refine n_new (T := TX3) (N := 6) (ci := 3) (fs := [.null, .int 0, .null, .int 0, .long 0, .null]) C1 hh hinX3 tyX3 tyX3_ok w785 w780 w64 rfl dfX3 (Nat.le_of_ble_eq_true rfl) (Nat.le_of_ble_eq_true rfl) dL_law_0 (fun v0 H hh => ?_)
  refine lv_dup C1.1.1 C1.1.2.1 dL_law_3 rfl ?_
  have hh : HL D s.heap.size s (([] ++ []) ++ [(v0, .inr (3, [.null, .int 0, .null, .int 0, .long 0, .null]))]) H locs := hh
  refine n_call (As := []) (rest := [.ref v0]) C1 hh (c_X3_init C1.2.2.2.2.2.2 v0) (qc173 C1.1.2.2.2.2 ⟨Nat.le_of_ble_eq_true rfl, Nat.le_of_ble_eq_true rfl⟩) rfl hl.1 rfl (lv_room (Nat.le_of_ble_eq_true rfl)) dL_law_4 ⟨Nat.le_of_ble_eq_true rfl, Nat.le_of_ble_eq_true rfl⟩ (fun L' H locs hp hh => ?_)
  obtain ⟨v1, v2, v3, v4, v5, v6, rfl⟩ := hp
  have hh : HL D s.heap.size s ([] ++ [(v0, .inr (3, [.ref v1, .int 0, .ref v2, .int 0, .long 1, .ref v3])), (v1, .inl (cy 4, 8, .inr (.inr (.inr (.inr (fun _ => none)))))), (v2, .inl (cy 3, 6, .inr (.inr (.inr (.inr (fun _ => none)))))), (v3, .inr (1, [.int 0, .int 0, .int 0, .int 0, .int 0, .ref v4, .ref v5, .ref v6])), (v4, .inl (cy 1, 60, .inl (fun _ => 0))), (v5, .inl (cy 1, 60, .inl (fun _ => 0))), (v6, .inl (cy 1, 60, .inl (fun _ => 0)))]) H locs := hh
  refine lv_astore_n (lv' := [(1, .ref v0), (0, .ref b)]) C1.1.1 C1.1.2.1 dL_law_7 rfl hl (by decide) rfl (fun ls hl => ?_)
  refine n_new (T := TX4) (N := 28) (ci := 4) (fs := [.int 0, .int 0, .null, .null, .null, .null, .null, .null, .null, .null, .null, .null, .null, .null, .null, .null, .null, .null, .null, .null, .null, .null, .int 0, .int 0, .null, .null, .null, .null]) C1 hh hinX4 tyX4 tyX4_ok w789 w781 w310 rfl dfX4 (Nat.le_of_ble_eq_true rfl) (Nat.le_of_ble_eq_true rfl) dL_law_8 (fun v7 H hh => ?_)
  refine lv_dup C1.1.1 C1.1.2.1 dL_law_11 rfl ?_
  have hh : HL D s.heap.size s (([] ++ [(v0, .inr (3, [.ref v1, .int 0, .ref v2, .int 0, .long 1, .ref v3])), (v1, .inl (cy 4, 8, .inr (.inr (.inr (.inr (fun _ => none)))))), (v2, .inl (cy 3, 6, .inr (.inr (.inr (.inr (fun _ => none)))))), (v3, .inr (1, [.int 0, .int 0, .int 0, .int 0, .int 0, .ref v4, .ref v5, .ref v6])), (v4, .inl (cy 1, 60, .inl (fun _ => 0))), (v5, .inl (cy 1, 60, .inl (fun _ => 0))), (v6, .inl (cy 1, 60, .inl (fun _ => 0)))]) ++ [(v7, .inr (4, [.int 0, .int 0, .null, .null, .null, .null, .null, .null, .null, .null, .null, .null, .null, .null, .null, .null, .null, .null, .null, .null, .null, .null, .int 0, .int 0, .null, .null, .null, .null]))]) H locs := hh
  refine n_call (As := []) (rest := [.ref v7]) C1 hh (c_X4_init C1.2.2.2.2.2.2 v7) (qc174 C1.1.2.2.2.2 ⟨Nat.le_of_ble_eq_true rfl, Nat.le_of_ble_eq_true rfl⟩) rfl hl.1 rfl (lv_room (Nat.le_of_ble_eq_true rfl)) dL_law_12 ⟨Nat.le_of_ble_eq_true rfl, Nat.le_of_ble_eq_true rfl⟩ (fun L' H locs hp hh => ?_)
  obtain ⟨v8, v9, v10, v11, v12, v13, v14, v15, v16, v17, v18, v19, v20, v21, v22, v23, v24, v25, v26, v27, v28, v29, v30, v31, rfl⟩ := hp
  have hh : HL D s.heap.size s ([] ++ [(v0, .inr (3, [.ref v1, .int 0, .ref v2, .int 0, .long 1, .ref v3])), (v1, .inl (cy 4, 8, .inr (.inr (.inr (.inr (fun _ => none)))))), (v2, .inl (cy 3, 6, .inr (.inr (.inr (.inr (fun _ => none)))))), (v3, .inr (1, [.int 0, .int 0, .int 0, .int 0, .int 0, .ref v4, .ref v5, .ref v6])), (v4, .inl (cy 1, 60, .inl (fun _ => 0))), (v5, .inl (cy 1, 60, .inl (fun _ => 0))), (v6, .inl (cy 1, 60, .inl (fun _ => 0))), (v7, .inr (4, [.int 0, .int 0, .ref v8, .ref v9, .ref v10, .ref v11, .ref v12, .ref v13, .ref v14, .ref v15, .ref v16, .ref v17, .ref v18, .ref v19, .ref v20, .ref v21, .ref v22, .ref v23, .ref v24, .ref v25, .ref v26, .ref v27, .int 1, .int 0, .ref v28, .ref v29, .ref v30, .ref v31])), (v8, .inl (cy 0, 8, .inl (fun _ => 0))), (v9, .inl (cy 0, 8, .inl (fun _ => 0))), (v10, .inl (cy 0, 8, .inl (fun _ => 0))), (v11, .inl (cy 1, 8, .inl (fun _ => 0))), (v12, .inl (cy 1, 8, .inl (fun _ => 0))), (v13, .inl (cy 1, 8, .inl (fun _ => 0))), (v14, .inl (cy 1, 8, .inl (fun _ => 0))), (v15, .inl (cy 1, 8, .inl (fun _ => 0))), (v16, .inl (cy 1, 8, .inl (fun _ => 0))), (v17, .inl (cy 1, 8, .inl (fun _ => 0))), (v18, .inl (cy 1, 8, .inl (fun _ => 0))), (v19, .inl (cy 1, 8, .inl (fun _ => 0))), (v20, .inl (cy 1, 8, .inl (fun _ => 0))), (v21, .inl (cy 1, 8, .inl (fun _ => 0))), (v22, .inl (cy 1, 8, .inl (fun _ => 0))), (v23, .inl (cy 2, 8, .inl (fun _ => 0))), (v24, .inl (cy 2, 8, .inl (fun _ => 0))), (v25, .inl (cy 2, 8, .inl (fun _ => 0))), (v26, .inl (cy 1, 480, .inl (fun _ => 0))), (v27, .inl (cy 1, 480, .inl (fun _ => 0))), (v28, .inl (cy 0, 6, .inl (fun _ => 0))), (v29, .inl (cy 0, 6, .inl (fun _ => 0))), (v30, .inl (cy 1, 6, .inl (fun _ => 0))), (v31, .inl (cy 1, 6, .inl (fun _ => 0)))]) H locs := hh
  refine lv_astore_n (lv' := [(2, .ref v7), (1, .ref v0), (0, .ref b)]) C1.1.1 C1.1.2.1 dL_law_15 rfl hl (by decide) rfl (fun ls hl => ?_)
  refine lv_iconst (v := 1) C1.1.1 C1.1.2.1 dL_law_16 (by decide) ?_
  refine n_newa (atype := .long) (ty := .long) (N := 1) (t := 5) (a0 := (1, .inr (.inl (fun _ => 0)))) C1 hh w782 rfl rfl (fun _ => rfl) (by decide) (by decide +kernel) (Nat.le_of_ble_eq_true rfl) (Nat.le_of_ble_eq_true rfl) (Nat.le_of_ble_eq_true rfl) dL_law_17 (fun v32 H hh => ?_)
  have hh : HL D s.heap.size s ([] ++ [(v0, .inr (3, [.ref v1, .int 0, .ref v2, .int 0, .long 1, .ref v3])), (v1, .inl (cy 4, 8, .inr (.inr (.inr (.inr (fun _ => none)))))), (v2, .inl (cy 3, 6, .inr (.inr (.inr (.inr (fun _ => none)))))), (v3, .inr (1, [.int 0, .int 0, .int 0, .int 0, .int 0, .ref v4, .ref v5, .ref v6])), (v4, .inl (cy 1, 60, .inl (fun _ => 0))), (v5, .inl (cy 1, 60, .inl (fun _ => 0))), (v6, .inl (cy 1, 60, .inl (fun _ => 0))), (v7, .inr (4, [.int 0, .int 0, .ref v8, .ref v9, .ref v10, .ref v11, .ref v12, .ref v13, .ref v14, .ref v15, .ref v16, .ref v17, .ref v18, .ref v19, .ref v20, .ref v21, .ref v22, .ref v23, .ref v24, .ref v25, .ref v26, .ref v27, .int 1, .int 0, .ref v28, .ref v29, .ref v30, .ref v31])), (v8, .inl (cy 0, 8, .inl (fun _ => 0))), (v9, .inl (cy 0, 8, .inl (fun _ => 0))), (v10, .inl (cy 0, 8, .inl (fun _ => 0))), (v11, .inl (cy 1, 8, .inl (fun _ => 0))), (v12, .inl (cy 1, 8, .inl (fun _ => 0))), (v13, .inl (cy 1, 8, .inl (fun _ => 0))), (v14, .inl (cy 1, 8, .inl (fun _ => 0))), (v15, .inl (cy 1, 8, .inl (fun _ => 0))), (v16, .inl (cy 1, 8, .inl (fun _ => 0))), (v17, .inl (cy 1, 8, .inl (fun _ => 0))), (v18, .inl (cy 1, 8, .inl (fun _ => 0))), (v19, .inl (cy 1, 8, .inl (fun _ => 0))), (v20, .inl (cy 1, 8, .inl (fun _ => 0))), (v21, .inl (cy 1, 8, .inl (fun _ => 0))), (v22, .inl (cy 1, 8, .inl (fun _ => 0))), (v23, .inl (cy 2, 8, .inl (fun _ => 0))), (v24, .inl (cy 2, 8, .inl (fun _ => 0))), (v25, .inl (cy 2, 8, .inl (fun _ => 0))), (v26, .inl (cy 1, 480, .inl (fun _ => 0))), (v27, .inl (cy 1, 480, .inl (fun _ => 0))), (v28, .inl (cy 0, 6, .inl (fun _ => 0))), (v29, .inl (cy 0, 6, .inl (fun _ => 0))), (v30, .inl (cy 1, 6, .inl (fun _ => 0))), (v31, .inl (cy 1, 6, .inl (fun _ => 0))), (v32, .inl (cy 5, 1, .inr (.inl (fun _ => 0))))]) H locs := hh
  refine lv_astore_n (lv' := [(3, .ref v32), (2, .ref v7), (1, .ref v0), (0, .ref b)]) C1.1.1 C1.1.2.1 dL_law_19 rfl hl (by decide) rfl (fun ls hl => ?_)
  refine lv_iconst (v := 1) C1.1.1 C1.1.2.1 dL_law_20 (by decide) ?_
  refine n_newa (atype := .double) (ty := .double) (N := 1) (t := 6) (a0 := (1, .inr (.inr (.inr (.inl (fun _ => 0)))))) C1 hh w783 rfl rfl (fun _ => rfl) (by decide) (by decide +kernel) (Nat.le_of_ble_eq_true rfl) (Nat.le_of_ble_eq_true rfl) (Nat.le_of_ble_eq_true rfl) dL_law_21 (fun v33 H hh => ?_)
  have hh : HL D s.heap.size s ([] ++ [(v0, .inr (3, [.ref v1, .int 0, .ref v2, .int 0, .long 1, .ref v3])), (v1, .inl (cy 4, 8, .inr (.inr (.inr (.inr (fun _ => none)))))), (v2, .inl (cy 3, 6, .inr (.inr (.inr (.inr (fun _ => none)))))), (v3, .inr (1, [.int 0, .int 0, .int 0, .int 0, .int 0, .ref v4, .ref v5, .ref v6])), (v4, .inl (cy 1, 60, .inl (fun _ => 0))), (v5, .inl (cy 1, 60, .inl (fun _ => 0))), (v6, .inl (cy 1, 60, .inl (fun _ => 0))), (v7, .inr (4, [.int 0, .int 0, .ref v8, .ref v9, .ref v10, .ref v11, .ref v12, .ref v13, .ref v14, .ref v15, .ref v16, .ref v17, .ref v18, .ref v19, .ref v20, .ref v21, .ref v22, .ref v23, .ref v24, .ref v25, .ref v26, .ref v27, .int 1, .int 0, .ref v28, .ref v29, .ref v30, .ref v31])), (v8, .inl (cy 0, 8, .inl (fun _ => 0))), (v9, .inl (cy 0, 8, .inl (fun _ => 0))), (v10, .inl (cy 0, 8, .inl (fun _ => 0))), (v11, .inl (cy 1, 8, .inl (fun _ => 0))), (v12, .inl (cy 1, 8, .inl (fun _ => 0))), (v13, .inl (cy 1, 8, .inl (fun _ => 0))), (v14, .inl (cy 1, 8, .inl (fun _ => 0))), (v15, .inl (cy 1, 8, .inl (fun _ => 0))), (v16, .inl (cy 1, 8, .inl (fun _ => 0))), (v17, .inl (cy 1, 8, .inl (fun _ => 0))), (v18, .inl (cy 1, 8, .inl (fun _ => 0))), (v19, .inl (cy 1, 8, .inl (fun _ => 0))), (v20, .inl (cy 1, 8, .inl (fun _ => 0))), (v21, .inl (cy 1, 8, .inl (fun _ => 0))), (v22, .inl (cy 1, 8, .inl (fun _ => 0))), (v23, .inl (cy 2, 8, .inl (fun _ => 0))), (v24, .inl (cy 2, 8, .inl (fun _ => 0))), (v25, .inl (cy 2, 8, .inl (fun _ => 0))), (v26, .inl (cy 1, 480, .inl (fun _ => 0))), (v27, .inl (cy 1, 480, .inl (fun _ => 0))), (v28, .inl (cy 0, 6, .inl (fun _ => 0))), (v29, .inl (cy 0, 6, .inl (fun _ => 0))), (v30, .inl (cy 1, 6, .inl (fun _ => 0))), (v31, .inl (cy 1, 6, .inl (fun _ => 0))), (v32, .inl (cy 5, 1, .inr (.inl (fun _ => 0)))), (v33, .inl (cy 6, 1, .inr (.inr (.inr (.inl (fun _ => 0))))))]) H locs := hh
  refine lv_astore (lv' := [(4, .ref v33), (3, .ref v32), (2, .ref v7), (1, .ref v0), (0, .ref b)]) C1.1.1 C1.1.2.1 dL_law_23 hl (by decide) rfl (fun ls hl => ?_)
  refine lv_iconst (v := 0) C1.1.1 C1.1.2.1 dL_law_25 (by decide) ?_
  refine lv_istore (lv' := [(5, .int 0), (4, .ref v33), (3, .ref v32), (2, .ref v7), (1, .ref v0), (0, .ref b)]) C1.1.1 C1.1.2.1 dL_law_26 hl (by decide) rfl (fun ls hl => ?_)
  have hw : LW D cy s.heap.size s v0 v7 v32 v33 sg0 H locs := ⟨(ad0 v0 v1 v2 v3 v4 v5 v6 v7 v8 v9 v10 v11 v12 v13 v14 v15 v16 v17 v18 v19 v20 v21 v22 v23 v24 v25 v26 v27 v28 v29 v30 v31 v32 v33), 0, 0, ⟨rfl, rfl, rfl, rfl⟩, by rw [wd0]; exact hh.1, by rw [wd0]; exact hh.2.1, hh.2.2, iv0⟩
  refine b_law (Qf := fun _ => lw_Z below #[Value.ref b] s) C1 hX hbl (Nat.not_le.mpr hbl) ?_ 513 0 (Nat.le_refl _) sg0 0 _ _ _ hw (lv_sub hl [5, 4, 3, 2, 1, 0] rfl) () hres
  intro H locs ls t ht hS
  refine s_iconst (v := 1) C1 dL_law_1387 (by decide) ?_
  intro r h
  refine va_forget (fun q hq => hS.2.2 q hq) ?_
  refine W.widen (k := 603072) (n := 7231594) (by omega) (by omega) ?_
  refine W.base ?_
  exact lw_ret (Drawn.sameBut.refl s.drawn lw_cs) hx hb hr hlocks dL_law_1388
