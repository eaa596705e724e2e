section
theorem mV {own C : String} {idx : Nat} {y : MethodName} {cw : Cond} (h1 : Cond.methodLink own idx y ∈ allw) (h2 : Cond.instanceMethod y ∈ allw) (h3 : Cond.selects C y y ∈ allw) (h4 : Cond.initialized C ∈ allw) (h5 : cw ∈ allw) : ∀ w ∈ wsV own idx C y (cw :: allw), w ∈ allw := by
  intro w h
  rcases List.mem_append.mp h with h | h
  · rcases List.mem_cons.mp h with rfl | h
    · exact h1
    · rcases List.mem_cons.mp h with rfl | h
      · exact h2
      · rcases List.mem_cons.mp h with rfl | h
        · exact h3
        · rcases List.mem_cons.mp h with rfl | h
          · exact h4
          · exact absurd h List.not_mem_nil
  · rcases List.mem_cons.mp h with rfl | h
    · exact h5
    · exact h
theorem mS {own : String} {idx : Nat} {y : MethodName} {cw : Cond} (h1 : Cond.methodLink own idx y ∈ allw) (h2 : Cond.static y ∈ allw) (h4 : Cond.initialized own ∈ allw) (h5 : cw ∈ allw) : ∀ w ∈ wsS own idx y (cw :: allw), w ∈ allw := by
  intro w h
  rcases List.mem_append.mp h with h | h
  · rcases List.mem_cons.mp h with rfl | h
    · exact h1
    · rcases List.mem_cons.mp h with rfl | h
      · exact h2
      · rcases List.mem_cons.mp h with rfl | h
        · exact h4
        · exact absurd h List.not_mem_nil
  · rcases List.mem_cons.mp h with rfl | h
    · exact h5
    · exact h
theorem mC0 {cw : Cond} (h5 : cw ∈ allw) : ∀ w ∈ cw :: allw, w ∈ allw := by
  intro w h
  rcases List.mem_cons.mp h with rfl | h
  · exact h5
  · exact h
theorem hin_of {ws : List Cond} (h : ws.all (fun w => decide (w ∈ tables_1) && goodWord w) = true) : ∀ w ∈ ws, w ∈ allw := by
  intro w hw
  have h1 := List.all_eq_true.mp h w hw
  rw [Bool.and_eq_true] at h1
  exact allw_of (List.mem_append_right _ (of_decide_eq_true h1.1)) h1.2
theorem hinX0 : ∀ w ∈ u_ws RX0 TX0 4, w ∈ allw := hin_of (by decide +kernel)
theorem hinX1 : ∀ w ∈ u_ws RX1 TX1 8, w ∈ allw := hin_of (by decide +kernel)
theorem hinX2 : ∀ w ∈ u_ws RX2 TX2 13, w ∈ allw := hin_of (by decide +kernel)
theorem hinX3 : ∀ w ∈ u_ws RX3 TX3 6, w ∈ allw := hin_of (by decide +kernel)
theorem hinX4 : ∀ w ∈ u_ws RX4 TX4 28, w ∈ allw := hin_of (by decide +kernel)
variable {p : Program} {l : Launch} {e : Env} {R : Room} {s : State} {m : MethodId} {args : Array Value} {below : List Frame} {meth : Method} {c : Code} {cc : ByteArray} {nL : Nat} {own : String} {D : va_G} {cy : Nat → ClassId} {n0 : Nat} {ad : Nat → Nat → Nat} {nT nO : Nat} {σ : Sg} {H : Heap} {locs : List Loc} {cells slots pc : Nat} {ls : Array Slot} {rest : List Value} {β : Type} {Qf : β → State → Prop} {o o1 o2 : Option β}
theorem s_mmax {index : Nat} {x y : Int32} (C0 : Cx p l s m args meth c cc nL own D cy n0) (w1 : Cond.methodLink own index Lib.Math.max.name ∈ allw) (w2 : Cond.static Lib.Math.max.name ∈ allw) (w3 : Cond.initialized "java/lang/Math" ∈ allw) (w4 : Cond.code Lib.Math.max.name Lib.Math.max.code 2 (some .int) ∈ allw) (hsz : ls.size = nL)
    (hf : 1 ≤ R.frames) (hl : (rest.map fun v => v.category).sum + 13 ≤ R.locals) (hc : cells ≤ R.cells) (hs : slots ≤ R.slots) (hdg : decode cc pc = .ok (.invokestatic index, 3)) (k : Sm Qf o p l e R s m args below meth c H locs cells slots (F0 m (pc + 3) ls (.int (if x < y then y else x) :: rest))) :
    Sm Qf o p l e R s m args below meth c H locs cells slots (F0 m pc ls (.int y :: .int x :: rest)) := fun r h => va_mmax C0.1.1 C0.1.2.1 (C0.1.2.2.1.trans hsz.symm) C0.1.2.2.2.1 (C0.1.2.2.2.2 _ w1) (C0.1.2.2.2.2 _ w2) (C0.1.2.2.2.2 _ w3) (C0.1.2.2.2.2 _ w4) hf hl hc hs hdg (k r h)
theorem s_mmin {index : Nat} {x y : Int32} (C0 : Cx p l s m args meth c cc nL own D cy n0) (w1 : Cond.methodLink own index Lib.Math.min.name ∈ allw) (w2 : Cond.static Lib.Math.min.name ∈ allw) (w3 : Cond.initialized "java/lang/Math" ∈ allw) (w4 : Cond.code Lib.Math.min.name Lib.Math.min.code 2 (some .int) ∈ allw) (hsz : ls.size = nL)
    (hf : 1 ≤ R.frames) (hl : (rest.map fun v => v.category).sum + 13 ≤ R.locals) (hc : cells ≤ R.cells) (hs : slots ≤ R.slots) (hdg : decode cc pc = .ok (.invokestatic index, 3)) (k : Sm Qf o p l e R s m args below meth c H locs cells slots (F0 m (pc + 3) ls (.int (if y < x then y else x) :: rest))) :
    Sm Qf o p l e R s m args below meth c H locs cells slots (F0 m pc ls (.int y :: .int x :: rest)) := fun r h => va_mmin C0.1.1 C0.1.2.1 (C0.1.2.2.1.trans hsz.symm) C0.1.2.2.2.1 (C0.1.2.2.2.2 _ w1) (C0.1.2.2.2.2 _ w2) (C0.1.2.2.2.2 _ w3) (C0.1.2.2.2.2 _ w4) hf hl hc hs hdg (k r h)
theorem narrow_z {v : Int32} (h : v = 0 ∨ v = 1) : narrow .boolean (.int v) = .int v := nz_of h
end
theorem w0 : Cond.methodLink RX1 3 Lib.objectInit ∈ allw := tw 36 (by decide +kernel) (by decide +kernel)
theorem w1 : Cond.instanceMethod Lib.objectInit ∈ allw := tw 25 (by decide +kernel) (by decide +kernel)
theorem w2 : Cond.code Lib.objectInit ⟨#[0xb1]⟩ 1 none ∈ allw := tw 26 (by decide +kernel) (by decide +kernel)
theorem w3 : Cond.arrayClass .int ∈ allw := tw 72 (by decide +kernel) (by decide +kernel)
theorem w4 : Cond.fieldLink RX1 9 (TX1 5).1 (TX1 5).2.1 (TX1 5).2.2.1 ∈ allw := tw 48 (by decide +kernel) (by decide +kernel)
theorem w5 : Cond.fieldLink RX1 15 (TX1 6).1 (TX1 6).2.1 (TX1 6).2.2.1 ∈ allw := tw 50 (by decide +kernel) (by decide +kernel)
theorem w6 : Cond.fieldLink RX1 18 (TX1 7).1 (TX1 7).2.1 (TX1 7).2.2.1 ∈ allw := tw 53 (by decide +kernel) (by decide +kernel)
theorem w7 : Cond.methodLink RX2 3 Lib.objectInit ∈ allw := tw 271 (by decide +kernel) (by decide +kernel)
theorem w8 : Cond.fieldLink RX2 9 (TX2 0).1 (TX2 0).2.1 (TX2 0).2.2.1 ∈ allw := tw 274 (by decide +kernel) (by decide +kernel)
theorem w9 : Cond.fieldLink RX2 15 (TX2 1).1 (TX2 1).2.1 (TX2 1).2.2.1 ∈ allw := tw 277 (by decide +kernel) (by decide +kernel)
theorem w10 : Cond.fieldLink RX2 19 (TX2 3).1 (TX2 3).2.1 (TX2 3).2.2.1 ∈ allw := tw 281 (by decide +kernel) (by decide +kernel)
theorem w11 : Cond.fieldLink RX2 22 (TX2 2).1 (TX2 2).2.1 (TX2 2).2.2.1 ∈ allw := tw 279 (by decide +kernel) (by decide +kernel)
theorem w12 : Cond.fieldLink RX2 25 (TX2 4).1 (TX2 4).2.1 (TX2 4).2.2.1 ∈ allw := tw 283 (by decide +kernel) (by decide +kernel)
theorem w13 : Cond.classLink RX2 28 RX1 ∈ allw := tw 272 (by decide +kernel) (by decide +kernel)
theorem w14 : Cond.instantiable RX1 8 ∈ allw := tw 32 (by decide +kernel) (by decide +kernel)
theorem w15 : Cond.initialized RX1 ∈ allw := tw 2 (by decide +kernel) (by decide +kernel)
theorem w16 : Cond.methodLink RX2 30 yX1_init ∈ allw := tw 273 (by decide +kernel) (by decide +kernel)
theorem w17 : Cond.code yX1_init cX1_init 1 none ∈ allw := tw 35 (by decide +kernel) (by decide +kernel)
theorem w18 : Cond.instanceMethod yX1_init ∈ allw := tw 34 (by decide +kernel) (by decide +kernel)
theorem w19 : Cond.fieldLink RX2 31 (TX2 5).1 (TX2 5).2.1 (TX2 5).2.2.1 ∈ allw := tw 286 (by decide +kernel) (by decide +kernel)
theorem w20 : Cond.methodLink RX0 3 Lib.objectInit ∈ allw := tw 674 (by decide +kernel) (by decide +kernel)
theorem w21 : Cond.fieldLink RX0 9 (TX0 0).1 (TX0 0).2.1 (TX0 0).2.2.1 ∈ allw := tw 675 (by decide +kernel) (by decide +kernel)
theorem w22 : Cond.fieldLink RX0 15 (TX0 1).1 (TX0 1).2.1 (TX0 1).2.2.1 ∈ allw := tw 676 (by decide +kernel) (by decide +kernel)
theorem w23 : Cond.fieldLink RX0 18 (TX0 2).1 (TX0 2).2.1 (TX0 2).2.2.1 ∈ allw := tw 677 (by decide +kernel) (by decide +kernel)
theorem w24 : Cond.methodLink RX3 1 Lib.objectInit ∈ allw := tw 24 (by decide +kernel) (by decide +kernel)
theorem w25 : Cond.classLink RX3 9 RX2 ∈ allw := tw 27 (by decide +kernel) (by decide +kernel)
theorem w26 : Cond.fieldLink RX3 11 (TX3 0).1 (TX3 0).2.1 (TX3 0).2.2.1 ∈ allw := tw 73 (by decide +kernel) (by decide +kernel)
theorem w27 : Cond.classLink RX3 15 RX0 ∈ allw := tw 29 (by decide +kernel) (by decide +kernel)
theorem w28 : Cond.fieldLink RX3 17 (TX3 2).1 (TX3 2).2.1 (TX3 2).2.2.1 ∈ allw := tw 75 (by decide +kernel) (by decide +kernel)
theorem w29 : Cond.fieldLink RX3 21 (TX3 4).1 (TX3 4).2.1 (TX3 4).2.2.1 ∈ allw := tw 77 (by decide +kernel) (by decide +kernel)
theorem w30 : Cond.classLink RX3 25 RX1 ∈ allw := tw 31 (by decide +kernel) (by decide +kernel)
theorem w31 : Cond.methodLink RX3 27 yX1_init ∈ allw := tw 33 (by decide +kernel) (by decide +kernel)
theorem w32 : Cond.fieldLink RX3 28 (TX3 5).1 (TX3 5).2.1 (TX3 5).2.2.1 ∈ allw := tw 78 (by decide +kernel) (by decide +kernel)
theorem w33 : Cond.methodLink RX4 1 Lib.objectInit ∈ allw := tw 770 (by decide +kernel) (by decide +kernel)
theorem w34 : Cond.arrayClass .char ∈ allw := tw 856 (by decide +kernel) (by decide +kernel)
theorem w35 : Cond.fieldLink RX4 7 (TX4 2).1 (TX4 2).2.1 (TX4 2).2.2.1 ∈ allw := tw 773 (by decide +kernel) (by decide +kernel)
theorem w36 : Cond.fieldLink RX4 13 (TX4 3).1 (TX4 3).2.1 (TX4 3).2.2.1 ∈ allw := tw 774 (by decide +kernel) (by decide +kernel)
theorem w37 : Cond.fieldLink RX4 16 (TX4 4).1 (TX4 4).2.1 (TX4 4).2.2.1 ∈ allw := tw 775 (by decide +kernel) (by decide +kernel)
theorem w38 : Cond.fieldLink RX4 19 (TX4 5).1 (TX4 5).2.1 (TX4 5).2.2.1 ∈ allw := tw 776 (by decide +kernel) (by decide +kernel)
theorem w39 : Cond.fieldLink RX4 23 (TX4 6).1 (TX4 6).2.1 (TX4 6).2.2.1 ∈ allw := tw 777 (by decide +kernel) (by decide +kernel)
theorem w40 : Cond.fieldLink RX4 26 (TX4 7).1 (TX4 7).2.1 (TX4 7).2.2.1 ∈ allw := tw 778 (by decide +kernel) (by decide +kernel)
theorem w41 : Cond.fieldLink RX4 29 (TX4 8).1 (TX4 8).2.1 (TX4 8).2.2.1 ∈ allw := tw 779 (by decide +kernel) (by decide +kernel)
theorem w42 : Cond.fieldLink RX4 32 (TX4 9).1 (TX4 9).2.1 (TX4 9).2.2.1 ∈ allw := tw 780 (by decide +kernel) (by decide +kernel)
theorem w43 : Cond.fieldLink RX4 35 (TX4 10).1 (TX4 10).2.1 (TX4 10).2.2.1 ∈ allw := tw 781 (by decide +kernel) (by decide +kernel)
theorem w44 : Cond.fieldLink RX4 38 (TX4 11).1 (TX4 11).2.1 (TX4 11).2.2.1 ∈ allw := tw 782 (by decide +kernel) (by decide +kernel)
theorem w45 : Cond.fieldLink RX4 41 (TX4 12).1 (TX4 12).2.1 (TX4 12).2.2.1 ∈ allw := tw 783 (by decide +kernel) (by decide +kernel)
theorem w46 : Cond.fieldLink RX4 44 (TX4 13).1 (TX4 13).2.1 (TX4 13).2.2.1 ∈ allw := tw 784 (by decide +kernel) (by decide +kernel)
theorem w47 : Cond.fieldLink RX4 47 (TX4 14).1 (TX4 14).2.1 (TX4 14).2.2.1 ∈ allw := tw 785 (by decide +kernel) (by decide +kernel)
theorem w48 : Cond.fieldLink RX4 50 (TX4 15).1 (TX4 15).2.1 (TX4 15).2.2.1 ∈ allw := tw 786 (by decide +kernel) (by decide +kernel)
theorem w49 : Cond.fieldLink RX4 53 (TX4 16).1 (TX4 16).2.1 (TX4 16).2.2.1 ∈ allw := tw 787 (by decide +kernel) (by decide +kernel)
theorem w50 : Cond.arrayClass .boolean ∈ allw := tw 857 (by decide +kernel) (by decide +kernel)
theorem w51 : Cond.fieldLink RX4 56 (TX4 17).1 (TX4 17).2.1 (TX4 17).2.2.1 ∈ allw := tw 788 (by decide +kernel) (by decide +kernel)
theorem w52 : Cond.fieldLink RX4 60 (TX4 18).1 (TX4 18).2.1 (TX4 18).2.2.1 ∈ allw := tw 789 (by decide +kernel) (by decide +kernel)
theorem w53 : Cond.fieldLink RX4 63 (TX4 19).1 (TX4 19).2.1 (TX4 19).2.2.1 ∈ allw := tw 790 (by decide +kernel) (by decide +kernel)
theorem w54 : Cond.fieldLink RX4 66 (TX4 20).1 (TX4 20).2.1 (TX4 20).2.2.1 ∈ allw := tw 791 (by decide +kernel) (by decide +kernel)
theorem w55 : Cond.fieldLink RX4 69 (TX4 21).1 (TX4 21).2.1 (TX4 21).2.2.1 ∈ allw := tw 792 (by decide +kernel) (by decide +kernel)
theorem w56 : Cond.fieldLink RX4 72 (TX4 22).1 (TX4 22).2.1 (TX4 22).2.2.1 ∈ allw := tw 793 (by decide +kernel) (by decide +kernel)
theorem w57 : Cond.fieldLink RX4 76 (TX4 24).1 (TX4 24).2.1 (TX4 24).2.2.1 ∈ allw := tw 795 (by decide +kernel) (by decide +kernel)
theorem w58 : Cond.fieldLink RX4 79 (TX4 25).1 (TX4 25).2.1 (TX4 25).2.2.1 ∈ allw := tw 796 (by decide +kernel) (by decide +kernel)
theorem w59 : Cond.fieldLink RX4 82 (TX4 26).1 (TX4 26).2.1 (TX4 26).2.2.1 ∈ allw := tw 797 (by decide +kernel) (by decide +kernel)
theorem w60 : Cond.fieldLink RX4 85 (TX4 27).1 (TX4 27).2.1 (TX4 27).2.2.1 ∈ allw := tw 798 (by decide +kernel) (by decide +kernel)
theorem w61 : Cond.fieldLink RX1 21 (TX1 0).1 (TX1 0).2.1 (TX1 0).2.2.1 ∈ allw := tw 37 (by decide +kernel) (by decide +kernel)
theorem w62 : Cond.methodLinkNest RX1 49 yX3_pitchOf "Teethrow" ∈ nwl := List.mem_filter.mpr ⟨List.mem_of_getElem? (i := 119) (by decide +kernel), rfl⟩
theorem w63 : Cond.code yX3_pitchOf cX3_pitchOf 1 (some .int) ∈ allw := tw 121 (by decide +kernel) (by decide +kernel)
theorem w64 : Cond.initialized RX3 ∈ allw := tw 1 (by decide +kernel) (by decide +kernel)
theorem w65 : Cond.static yX3_pitchOf ∈ allw := tw 120 (by decide +kernel) (by decide +kernel)
theorem w66 : Cond.fieldLink RX1 29 (TX1 2).1 (TX1 2).2.1 (TX1 2).2.2.1 ∈ allw := tw 42 (by decide +kernel) (by decide +kernel)
theorem w67 : Cond.fieldLink RX1 25 (TX1 1).1 (TX1 1).2.1 (TX1 1).2.2.1 ∈ allw := tw 39 (by decide +kernel) (by decide +kernel)
theorem w68 : Cond.fieldLink RX1 36 (TX1 3).1 (TX1 3).2.1 (TX1 3).2.2.1 ∈ allw := tw 43 (by decide +kernel) (by decide +kernel)
theorem w69 : Cond.fieldLink RX1 32 (TX1 4).1 (TX1 4).2.1 (TX1 4).2.2.1 ∈ allw := tw 46 (by decide +kernel) (by decide +kernel)
theorem w70 : Cond.methodLink RX1 53 Lib.Math.max.name ∈ allw := tw 126 (by decide +kernel) (by decide +kernel)
theorem w71 : Cond.static Lib.Math.max.name ∈ allw := tw 127 (by decide +kernel) (by decide +kernel)
theorem w72 : Cond.initialized "java/lang/Math" ∈ allw := tw 14 (by decide +kernel) (by decide +kernel)
theorem w73 : Cond.code Lib.Math.max.name Lib.Math.max.code 2 (some .int) ∈ allw := tw 128 (by decide +kernel) (by decide +kernel)
theorem w74 : Cond.methodLinkNest RX1 59 yX3_biteOf "Teethrow" ∈ nwl := List.mem_filter.mpr ⟨List.mem_of_getElem? (i := 148) (by decide +kernel), rfl⟩
theorem w75 : Cond.code yX3_biteOf cX3_biteOf 2 (some .int) ∈ allw := tw 150 (by decide +kernel) (by decide +kernel)
theorem w76 : Cond.static yX3_biteOf ∈ allw := tw 149 (by decide +kernel) (by decide +kernel)
theorem w77 : Cond.methodLink RX1 62 Lib.Math.min.name ∈ allw := tw 151 (by decide +kernel) (by decide +kernel)
theorem w78 : Cond.static Lib.Math.min.name ∈ allw := tw 152 (by decide +kernel) (by decide +kernel)
theorem w79 : Cond.code Lib.Math.min.name Lib.Math.min.code 2 (some .int) ∈ allw := tw 153 (by decide +kernel) (by decide +kernel)
theorem w80 : Cond.methodLink RX1 65 yX1_wearTooth ∈ allw := tw 154 (by decide +kernel) (by decide +kernel)
theorem w81 : Cond.code yX1_wearTooth cX1_wearTooth 4 none ∈ allw := tw 157 (by decide +kernel) (by decide +kernel)
theorem w82 : Cond.instanceMethod yX1_wearTooth ∈ allw := tw 155 (by decide +kernel) (by decide +kernel)
theorem w83 : Cond.selects RX1 yX1_wearTooth yX1_wearTooth ∈ allw := tw 156 (by decide +kernel) (by decide +kernel)
theorem w84 : Cond.methodLink RX1 69 yX1_hasLost ∈ allw := tw 710 (by decide +kernel) (by decide +kernel)
theorem w85 : Cond.code yX1_hasLost cX1_hasLost 2 (some .boolean) ∈ allw := tw 713 (by decide +kernel) (by decide +kernel)
theorem w86 : Cond.instanceMethod yX1_hasLost ∈ allw := tw 711 (by decide +kernel) (by decide +kernel)
theorem w87 : Cond.selects RX1 yX1_hasLost yX1_hasLost ∈ allw := tw 712 (by decide +kernel) (by decide +kernel)
theorem w88 : Cond.methodLink RX1 39 yX1_stepBehind ∈ allw := tw 115 (by decide +kernel) (by decide +kernel)
theorem w89 : Cond.code yX1_stepBehind cX1_stepBehind 2 (some .int) ∈ allw := tw 118 (by decide +kernel) (by decide +kernel)
theorem w90 : Cond.instanceMethod yX1_stepBehind ∈ allw := tw 116 (by decide +kernel) (by decide +kernel)
theorem w91 : Cond.selects RX1 yX1_stepBehind yX1_stepBehind ∈ allw := tw 117 (by decide +kernel) (by decide +kernel)
theorem w92 : Cond.fieldLink RX2 35 (TX2 9).1 (TX2 9).2.1 (TX2 9).2.2.1 ∈ allw := tw 297 (by decide +kernel) (by decide +kernel)
theorem w93 : Cond.fieldLinkNest RX2 38 (TX1 1).1 (TX1 1).2.1 (TX1 1).2.2.1 "Teethrow" ∈ nwl := List.mem_filter.mpr ⟨List.mem_of_getElem? (i := 40) (by decide +kernel), rfl⟩
theorem w94 : Cond.fieldLink RX2 41 (TX2 6).1 (TX2 6).2.1 (TX2 6).2.2.1 ∈ allw := tw 289 (by decide +kernel) (by decide +kernel)
theorem w95 : Cond.fieldLinkNest RX2 44 (TX1 3).1 (TX1 3).2.1 (TX1 3).2.2.1 "Teethrow" ∈ nwl := List.mem_filter.mpr ⟨List.mem_of_getElem? (i := 44) (by decide +kernel), rfl⟩
theorem w96 : Cond.methodLink RX2 79 yX2_groundThickness ∈ allw := tw 643 (by decide +kernel) (by decide +kernel)
theorem w97 : Cond.code yX2_groundThickness cX2_groundThickness 1 (some .int) ∈ allw := tw 637 (by decide +kernel) (by decide +kernel)
theorem w98 : Cond.initialized RX2 ∈ allw := tw 9 (by decide +kernel) (by decide +kernel)
theorem w99 : Cond.instanceMethod yX2_groundThickness ∈ allw := tw 635 (by decide +kernel) (by decide +kernel)
theorem w100 : Cond.selects RX2 yX2_groundThickness yX2_groundThickness ∈ allw := tw 636 (by decide +kernel) (by decide +kernel)
theorem w101 : Cond.methodLink RX2 82 yX1_clear ∈ allw := tw 644 (by decide +kernel) (by decide +kernel)
theorem w102 : Cond.code yX1_clear cX1_clear 1 none ∈ allw := tw 647 (by decide +kernel) (by decide +kernel)
theorem w103 : Cond.instanceMethod yX1_clear ∈ allw := tw 645 (by decide +kernel) (by decide +kernel)
theorem w104 : Cond.selects RX1 yX1_clear yX1_clear ∈ allw := tw 646 (by decide +kernel) (by decide +kernel)
theorem w105 : Cond.fieldLink RX2 69 (TX2 10).1 (TX2 10).2.1 (TX2 10).2.2.1 ∈ allw := tw 299 (by decide +kernel) (by decide +kernel)
theorem w106 : Cond.fieldLink RX2 85 (TX2 12).1 (TX2 12).2.1 (TX2 12).2.2.1 ∈ allw := tw 303 (by decide +kernel) (by decide +kernel)
theorem w107 : Cond.methodLink RX2 47 Lib.Math.max.name ∈ allw := tw 541 (by decide +kernel) (by decide +kernel)
theorem w108 : Cond.methodLink RX2 53 Lib.Math.min.name ∈ allw := tw 542 (by decide +kernel) (by decide +kernel)
theorem w109 : Cond.fieldLink RX2 56 (TX2 7).1 (TX2 7).2.1 (TX2 7).2.2.1 ∈ allw := tw 292 (by decide +kernel) (by decide +kernel)
theorem w110 : Cond.fieldLink RX2 59 (TX2 8).1 (TX2 8).2.1 (TX2 8).2.2.1 ∈ allw := tw 295 (by decide +kernel) (by decide +kernel)
theorem w111 : Cond.methodLink RX2 62 yX2_cool ∈ allw := tw 596 (by decide +kernel) (by decide +kernel)
theorem w112 : Cond.code yX2_cool cX2_cool 1 none ∈ allw := tw 490 (by decide +kernel) (by decide +kernel)
theorem w113 : Cond.instanceMethod yX2_cool ∈ allw := tw 488 (by decide +kernel) (by decide +kernel)
theorem w114 : Cond.selects RX2 yX2_cool yX2_cool ∈ allw := tw 489 (by decide +kernel) (by decide +kernel)
theorem w115 : Cond.fieldLink RX2 76 (TX2 11).1 (TX2 11).2.1 (TX2 11).2.2.1 ∈ allw := tw 301 (by decide +kernel) (by decide +kernel)
theorem w116 : Cond.methodLink RX2 65 yX2_holds ∈ allw := tw 597 (by decide +kernel) (by decide +kernel)
theorem w117 : Cond.code yX2_holds cX2_holds 1 (some .int) ∈ allw := tw 132 (by decide +kernel) (by decide +kernel)
theorem w118 : Cond.instanceMethod yX2_holds ∈ allw := tw 130 (by decide +kernel) (by decide +kernel)
theorem w119 : Cond.selects RX2 yX2_holds yX2_holds ∈ allw := tw 131 (by decide +kernel) (by decide +kernel)
theorem w120 : Cond.methodLink RX2 72 yX1_stroke ∈ allw := tw 598 (by decide +kernel) (by decide +kernel)
theorem w121 : Cond.code yX1_stroke cX1_stroke 7 (some .int) ∈ allw := tw 147 (by decide +kernel) (by decide +kernel)
theorem w122 : Cond.instanceMethod yX1_stroke ∈ allw := tw 145 (by decide +kernel) (by decide +kernel)
theorem w123 : Cond.selects RX1 yX1_stroke yX1_stroke ∈ allw := tw 146 (by decide +kernel) (by decide +kernel)
theorem w124 : Cond.constantLong RX2 88 31 ∈ allw := tw 101 (by decide +kernel) (by decide +kernel)
theorem w125 : Cond.fieldLinkNest RX2 90 (TX1 6).1 (TX1 6).2.1 (TX1 6).2.2.1 "Teethrow" ∈ nwl := List.mem_filter.mpr ⟨List.mem_of_getElem? (i := 52) (by decide +kernel), rfl⟩
theorem w126 : Cond.fieldLinkNest RX0 22 (TX2 0).1 (TX2 0).2.1 (TX2 0).2.2.1 "Teethrow" ∈ nwl := List.mem_filter.mpr ⟨List.mem_of_getElem? (i := 275) (by decide +kernel), rfl⟩
theorem w127 : Cond.fieldLinkNest RX0 25 (TX2 5).1 (TX2 5).2.1 (TX2 5).2.2.1 "Teethrow" ∈ nwl := List.mem_filter.mpr ⟨List.mem_of_getElem? (i := 287) (by decide +kernel), rfl⟩
theorem w128 : Cond.fieldLinkNest RX0 29 (TX1 0).1 (TX1 0).2.1 (TX1 0).2.2.1 "Teethrow" ∈ nwl := List.mem_filter.mpr ⟨List.mem_of_getElem? (i := 38) (by decide +kernel), rfl⟩
theorem w129 : Cond.fieldLinkNest RX0 32 (TX2 4).1 (TX2 4).2.1 (TX2 4).2.2.1 "Teethrow" ∈ nwl := List.mem_filter.mpr ⟨List.mem_of_getElem? (i := 284) (by decide +kernel), rfl⟩
theorem w130 : Cond.fieldLinkNest RX0 35 (TX2 7).1 (TX2 7).2.1 (TX2 7).2.2.1 "Teethrow" ∈ nwl := List.mem_filter.mpr ⟨List.mem_of_getElem? (i := 291) (by decide +kernel), rfl⟩
theorem w131 : Cond.fieldLinkNest RX0 38 (TX2 8).1 (TX2 8).2.1 (TX2 8).2.2.1 "Teethrow" ∈ nwl := List.mem_filter.mpr ⟨List.mem_of_getElem? (i := 294) (by decide +kernel), rfl⟩
theorem w132 : Cond.methodLink RX0 41 yX1_isEven ∈ allw := tw 705 (by decide +kernel) (by decide +kernel)
theorem w133 : Cond.code yX1_isEven cX1_isEven 2 (some .boolean) ∈ allw := tw 478 (by decide +kernel) (by decide +kernel)
theorem w134 : Cond.instanceMethod yX1_isEven ∈ allw := tw 476 (by decide +kernel) (by decide +kernel)
theorem w135 : Cond.selects RX1 yX1_isEven yX1_isEven ∈ allw := tw 477 (by decide +kernel) (by decide +kernel)
theorem w136 : Cond.methodLink RX0 45 yX1_isFresh ∈ allw := tw 706 (by decide +kernel) (by decide +kernel)
theorem w137 : Cond.code yX1_isFresh cX1_isFresh 2 (some .boolean) ∈ allw := tw 709 (by decide +kernel) (by decide +kernel)
theorem w138 : Cond.instanceMethod yX1_isFresh ∈ allw := tw 707 (by decide +kernel) (by decide +kernel)
theorem w139 : Cond.selects RX1 yX1_isFresh yX1_isFresh ∈ allw := tw 708 (by decide +kernel) (by decide +kernel)
theorem w140 : Cond.classLink RX3 266 (exn 1) ∈ allw := tw 368 (by decide +kernel) (by decide +kernel)
theorem w141 : Cond.initialized (exn 1) ∈ allw := tw 10 (by decide +kernel) (by decide +kernel)
theorem ax142 : axg 270 (exn 1) := ⟨by unfold allw; decide +kernel, by decide +kernel, by decide +kernel, by decide +kernel⟩
theorem w143 : Cond.fieldLinkNest RX3 75 (TX1 3).1 (TX1 3).2.1 (TX1 3).2.2.1 "Teethrow" ∈ nwl := List.mem_filter.mpr ⟨List.mem_of_getElem? (i := 45) (by decide +kernel), rfl⟩
theorem w144 : Cond.fieldLinkNest RX3 69 (TX2 4).1 (TX2 4).2.1 (TX2 4).2.2.1 "Teethrow" ∈ nwl := List.mem_filter.mpr ⟨List.mem_of_getElem? (i := 285) (by decide +kernel), rfl⟩
theorem w145 : Cond.classLink RX3 81 (exn 4) ∈ allw := tw 388 (by decide +kernel) (by decide +kernel)
theorem w146 : Cond.initialized (exn 4) ∈ allw := tw 13 (by decide +kernel) (by decide +kernel)
theorem ax147 : axg 85 (exn 4) := ⟨by unfold allw; decide +kernel, by decide +kernel, by decide +kernel, by decide +kernel⟩
theorem w148 : Cond.classLink RX3 280 (exn 2) ∈ allw := tw 175 (by decide +kernel) (by decide +kernel)
theorem w149 : Cond.initialized (exn 2) ∈ allw := tw 7 (by decide +kernel) (by decide +kernel)
theorem ax150 : axg 284 (exn 2) := ⟨by unfold allw; decide +kernel, by decide +kernel, by decide +kernel, by decide +kernel⟩
theorem w151 : Cond.methodLink RX3 54 yX3_needTool ∈ allw := tw 364 (by decide +kernel) (by decide +kernel)
theorem w152 : Cond.code yX3_needTool cX3_needTool 2 (some (.object "Teethrow$Tool")) ∈ allw := tw 367 (by decide +kernel) (by decide +kernel)
theorem w153 : Cond.instanceMethod yX3_needTool ∈ allw := tw 366 (by decide +kernel) (by decide +kernel)
theorem w154 : Cond.selects RX3 yX3_needTool yX3_needTool ∈ allw := sw 3 (by decide +kernel) (by decide +kernel)
theorem w155 : Cond.methodLink RX3 58 yX3_needCut ∈ allw := tw 381 (by decide +kernel) (by decide +kernel)
theorem w156 : Cond.code yX3_needCut cX3_needCut 1 none ∈ allw := tw 383 (by decide +kernel) (by decide +kernel)
theorem w157 : Cond.static yX3_needCut ∈ allw := tw 382 (by decide +kernel) (by decide +kernel)
theorem w158 : Cond.methodLink RX3 36 yX3_needWithin ∈ allw := tw 247 (by decide +kernel) (by decide +kernel)
theorem w159 : Cond.code yX3_needWithin cX3_needWithin 3 none ∈ allw := tw 249 (by decide +kernel) (by decide +kernel)
theorem w160 : Cond.static yX3_needWithin ∈ allw := tw 248 (by decide +kernel) (by decide +kernel)
theorem w161 : Cond.fieldLinkNest RX3 61 (TX2 0).1 (TX2 0).2.1 (TX2 0).2.2.1 "Teethrow" ∈ nwl := List.mem_filter.mpr ⟨List.mem_of_getElem? (i := 276) (by decide +kernel), rfl⟩
theorem w162 : Cond.methodLink RX3 65 yX3_depthOf ∈ allw := tw 385 (by decide +kernel) (by decide +kernel)
theorem w163 : Cond.code yX3_depthOf cX3_depthOf 3 (some .int) ∈ allw := tw 387 (by decide +kernel) (by decide +kernel)
theorem w164 : Cond.static yX3_depthOf ∈ allw := tw 386 (by decide +kernel) (by decide +kernel)
theorem w165 : Cond.fieldLinkNest RX3 72 (TX2 5).1 (TX2 5).2.1 (TX2 5).2.2.1 "Teethrow" ∈ nwl := List.mem_filter.mpr ⟨List.mem_of_getElem? (i := 288) (by decide +kernel), rfl⟩
theorem w166 : Cond.fieldLinkNest RX3 78 (TX2 3).1 (TX2 3).2.1 (TX2 3).2.2.1 "Teethrow" ∈ nwl := List.mem_filter.mpr ⟨List.mem_of_getElem? (i := 282) (by decide +kernel), rfl⟩
theorem w167 : Cond.fieldLinkNest RX3 86 (TX2 1).1 (TX2 1).2.1 (TX2 1).2.2.1 "Teethrow" ∈ nwl := List.mem_filter.mpr ⟨List.mem_of_getElem? (i := 278) (by decide +kernel), rfl⟩
theorem w168 : Cond.methodLink RX3 89 yX1_fill ∈ allw := tw 404 (by decide +kernel) (by decide +kernel)
theorem w169 : Cond.code yX1_fill cX1_fill 7 none ∈ allw := tw 407 (by decide +kernel) (by decide +kernel)
theorem w170 : Cond.instanceMethod yX1_fill ∈ allw := tw 405 (by decide +kernel) (by decide +kernel)
theorem w171 : Cond.selects RX1 yX1_fill yX1_fill ∈ allw := tw 406 (by decide +kernel) (by decide +kernel)
theorem w172 : Cond.fieldLinkNest RX3 92 (TX1 4).1 (TX1 4).2.1 (TX1 4).2.2.1 "Teethrow" ∈ nwl := List.mem_filter.mpr ⟨List.mem_of_getElem? (i := 47) (by decide +kernel), rfl⟩
theorem w173 : Cond.methodLink RX3 98 yX1_lowerAll ∈ allw := tw 416 (by decide +kernel) (by decide +kernel)
theorem w174 : Cond.code yX1_lowerAll cX1_lowerAll 2 none ∈ allw := tw 419 (by decide +kernel) (by decide +kernel)
theorem w175 : Cond.instanceMethod yX1_lowerAll ∈ allw := tw 417 (by decide +kernel) (by decide +kernel)
theorem w176 : Cond.selects RX1 yX1_lowerAll yX1_lowerAll ∈ allw := tw 418 (by decide +kernel) (by decide +kernel)
theorem w177 : Cond.methodLink RX3 101 yX1_highest ∈ allw := tw 122 (by decide +kernel) (by decide +kernel)
theorem w178 : Cond.code yX1_highest cX1_highest 3 (some .int) ∈ allw := tw 125 (by decide +kernel) (by decide +kernel)
theorem w179 : Cond.instanceMethod yX1_highest ∈ allw := tw 123 (by decide +kernel) (by decide +kernel)
theorem w180 : Cond.selects RX1 yX1_highest yX1_highest ∈ allw := tw 124 (by decide +kernel) (by decide +kernel)
theorem w181 : Cond.methodLink RX3 105 yX3_needTooth ∈ allw := tw 435 (by decide +kernel) (by decide +kernel)
theorem w182 : Cond.code yX3_needTooth cX3_needTooth 2 none ∈ allw := tw 437 (by decide +kernel) (by decide +kernel)
theorem w183 : Cond.static yX3_needTooth ∈ allw := tw 436 (by decide +kernel) (by decide +kernel)
theorem w184 : Cond.fieldLinkNest RX3 109 (TX1 5).1 (TX1 5).2.1 (TX1 5).2.2.1 "Teethrow" ∈ nwl := List.mem_filter.mpr ⟨List.mem_of_getElem? (i := 49) (by decide +kernel), rfl⟩
theorem w185 : Cond.fieldLinkNest RX3 113 (TX1 6).1 (TX1 6).2.1 (TX1 6).2.2.1 "Teethrow" ∈ nwl := List.mem_filter.mpr ⟨List.mem_of_getElem? (i := 51) (by decide +kernel), rfl⟩
theorem w186 : Cond.fieldLinkNest RX3 116 (TX1 7).1 (TX1 7).2.1 (TX1 7).2.2.1 "Teethrow" ∈ nwl := List.mem_filter.mpr ⟨List.mem_of_getElem? (i := 54) (by decide +kernel), rfl⟩
theorem w187 : Cond.methodLink RX3 119 yX1_isEven ∈ allw := tw 475 (by decide +kernel) (by decide +kernel)
theorem w188 : Cond.fieldLinkNest RX3 125 (TX2 6).1 (TX2 6).2.1 (TX2 6).2.2.1 "Teethrow" ∈ nwl := List.mem_filter.mpr ⟨List.mem_of_getElem? (i := 290) (by decide +kernel), rfl⟩
theorem w189 : Cond.methodLink RX3 128 yX2_cool ∈ allw := tw 487 (by decide +kernel) (by decide +kernel)
theorem w190 : Cond.methodLink RX3 131 yX2_holds ∈ allw := tw 129 (by decide +kernel) (by decide +kernel)
theorem w191 : Cond.methodLink RX3 134 yX3_needBath ∈ allw := tw 526 (by decide +kernel) (by decide +kernel)
theorem w192 : Cond.code yX3_needBath cX3_needBath 1 none ∈ allw := tw 528 (by decide +kernel) (by decide +kernel)
theorem w193 : Cond.static yX3_needBath ∈ allw := tw 527 (by decide +kernel) (by decide +kernel)
theorem w194 : Cond.fieldLinkNest RX3 139 (TX2 2).1 (TX2 2).2.1 (TX2 2).2.2.1 "Teethrow" ∈ nwl := List.mem_filter.mpr ⟨List.mem_of_getElem? (i := 280) (by decide +kernel), rfl⟩
theorem w195 : Cond.constantLong RX3 142 48271 ∈ allw := tw 531 (by decide +kernel) (by decide +kernel)
theorem w196 : Cond.constantLong RX3 144 2147483647 ∈ allw := tw 532 (by decide +kernel) (by decide +kernel)
theorem w197 : Cond.methodLink RX3 146 yX3_forceOf ∈ allw := tw 533 (by decide +kernel) (by decide +kernel)
theorem w198 : Cond.code yX3_forceOf cX3_forceOf 1 (some .int) ∈ allw := tw 535 (by decide +kernel) (by decide +kernel)
theorem w199 : Cond.static yX3_forceOf ∈ allw := tw 534 (by decide +kernel) (by decide +kernel)
theorem w200 : Cond.constantLong RX3 150 5 ∈ allw := tw 536 (by decide +kernel) (by decide +kernel)
theorem w201 : Cond.methodLink RX3 152 yX2_quench ∈ allw := tw 537 (by decide +kernel) (by decide +kernel)
theorem w202 : Cond.code yX2_quench cX2_quench 6 none ∈ allw := tw 540 (by decide +kernel) (by decide +kernel)
theorem w203 : Cond.instanceMethod yX2_quench ∈ allw := tw 538 (by decide +kernel) (by decide +kernel)
theorem w204 : Cond.selects RX2 yX2_quench yX2_quench ∈ allw := tw 539 (by decide +kernel) (by decide +kernel)
theorem w205 : Cond.fieldLinkNest RX3 155 (TX2 7).1 (TX2 7).2.1 (TX2 7).2.2.1 "Teethrow" ∈ nwl := List.mem_filter.mpr ⟨List.mem_of_getElem? (i := 293) (by decide +kernel), rfl⟩
theorem w206 : Cond.fieldLinkNest RX3 158 (TX2 8).1 (TX2 8).2.1 (TX2 8).2.2.1 "Teethrow" ∈ nwl := List.mem_filter.mpr ⟨List.mem_of_getElem? (i := 296) (by decide +kernel), rfl⟩
theorem w207 : Cond.methodLink RX3 161 yX3_needHard ∈ allw := tw 564 (by decide +kernel) (by decide +kernel)
theorem w208 : Cond.code yX3_needHard cX3_needHard 1 none ∈ allw := tw 566 (by decide +kernel) (by decide +kernel)
theorem w209 : Cond.static yX3_needHard ∈ allw := tw 565 (by decide +kernel) (by decide +kernel)
theorem w210 : Cond.methodLink RX3 165 Lib.Math.max.name ∈ allw := tw 568 (by decide +kernel) (by decide +kernel)
theorem w211 : Cond.fieldLinkNest RX3 171 (TX2 9).1 (TX2 9).2.1 (TX2 9).2.2.1 "Teethrow" ∈ nwl := List.mem_filter.mpr ⟨List.mem_of_getElem? (i := 298) (by decide +kernel), rfl⟩
theorem w212 : Cond.constant RX3 176 2147483646 ∈ allw := tw 584 (by decide +kernel) (by decide +kernel)
theorem w213 : Cond.methodLink RX3 177 yX2_bite ∈ allw := tw 592 (by decide +kernel) (by decide +kernel)
theorem w214 : Cond.code yX2_bite cX2_bite 6 (some .int) ∈ allw := tw 595 (by decide +kernel) (by decide +kernel)
theorem w215 : Cond.instanceMethod yX2_bite ∈ allw := tw 593 (by decide +kernel) (by decide +kernel)
theorem w216 : Cond.selects RX2 yX2_bite yX2_bite ∈ allw := tw 594 (by decide +kernel) (by decide +kernel)
theorem w217 : Cond.fieldLinkNest RX3 180 (TX2 10).1 (TX2 10).2.1 (TX2 10).2.2.1 "Teethrow" ∈ nwl := List.mem_filter.mpr ⟨List.mem_of_getElem? (i := 300) (by decide +kernel), rfl⟩
theorem w218 : Cond.fieldLinkNest RX3 183 (TX2 11).1 (TX2 11).2.1 (TX2 11).2.2.1 "Teethrow" ∈ nwl := List.mem_filter.mpr ⟨List.mem_of_getElem? (i := 302) (by decide +kernel), rfl⟩
theorem w219 : Cond.methodLink RX3 186 yX2_groundThickness ∈ allw := tw 634 (by decide +kernel) (by decide +kernel)
theorem w220 : Cond.methodLink RX3 191 yX2_takeTeethOff ∈ allw := tw 639 (by decide +kernel) (by decide +kernel)
theorem w221 : Cond.code yX2_takeTeethOff cX2_takeTeethOff 1 none ∈ allw := tw 642 (by decide +kernel) (by decide +kernel)
theorem w222 : Cond.instanceMethod yX2_takeTeethOff ∈ allw := tw 640 (by decide +kernel) (by decide +kernel)
theorem w223 : Cond.selects RX2 yX2_takeTeethOff yX2_takeTeethOff ∈ allw := tw 641 (by decide +kernel) (by decide +kernel)
theorem w224 : Cond.fieldLinkNest RX3 194 (TX2 12).1 (TX2 12).2.1 (TX2 12).2.2.1 "Teethrow" ∈ nwl := List.mem_filter.mpr ⟨List.mem_of_getElem? (i := 304) (by decide +kernel), rfl⟩
theorem w225 : Cond.methodLink RX3 205 yX3_needOrder ∈ allw := tw 696 (by decide +kernel) (by decide +kernel)
theorem w226 : Cond.code yX3_needOrder cX3_needOrder 2 (some (.object "Teethrow$Order")) ∈ allw := tw 699 (by decide +kernel) (by decide +kernel)
theorem w227 : Cond.instanceMethod yX3_needOrder ∈ allw := tw 698 (by decide +kernel) (by decide +kernel)
theorem w228 : Cond.selects RX3 yX3_needOrder yX3_needOrder ∈ allw := sw 4 (by decide +kernel) (by decide +kernel)
theorem w229 : Cond.methodLink RX3 209 yX0_takes ∈ allw := tw 701 (by decide +kernel) (by decide +kernel)
theorem w230 : Cond.code yX0_takes cX0_takes 2 (some .boolean) ∈ allw := tw 704 (by decide +kernel) (by decide +kernel)
theorem w231 : Cond.initialized RX0 ∈ allw := tw 16 (by decide +kernel) (by decide +kernel)
theorem w232 : Cond.instanceMethod yX0_takes ∈ allw := tw 702 (by decide +kernel) (by decide +kernel)
theorem w233 : Cond.selects RX0 yX0_takes yX0_takes ∈ allw := tw 703 (by decide +kernel) (by decide +kernel)
theorem w234 : Cond.fieldLinkNest RX3 213 (TX0 3).1 (TX0 3).2.1 (TX0 3).2.2.1 "Teethrow" ∈ nwl := List.mem_filter.mpr ⟨List.mem_of_getElem? (i := 679) (by decide +kernel), rfl⟩
theorem w235 : Cond.fieldLinkNest RX3 216 (TX0 2).1 (TX0 2).2.1 (TX0 2).2.2.1 "Teethrow" ∈ nwl := List.mem_filter.mpr ⟨List.mem_of_getElem? (i := 678) (by decide +kernel), rfl⟩
theorem w236 : Cond.classLink RX3 224 (exn 6) ∈ allw := tw 754 (by decide +kernel) (by decide +kernel)
theorem w237 : Cond.initialized (exn 6) ∈ allw := tw 17 (by decide +kernel) (by decide +kernel)
theorem ax238 : axg 228 (exn 6) := ⟨by unfold allw; decide +kernel, by decide +kernel, by decide +kernel, by decide +kernel⟩
theorem w239 : Cond.methodLink RX3 221 yX1_lostOnes ∈ allw := tw 750 (by decide +kernel) (by decide +kernel)
theorem w240 : Cond.code yX1_lostOnes cX1_lostOnes 3 (some .int) ∈ allw := tw 753 (by decide +kernel) (by decide +kernel)
theorem w241 : Cond.instanceMethod yX1_lostOnes ∈ allw := tw 751 (by decide +kernel) (by decide +kernel)
theorem w242 : Cond.selects RX1 yX1_lostOnes yX1_lostOnes ∈ allw := tw 752 (by decide +kernel) (by decide +kernel)
theorem w243 : Cond.constantLong RX3 231 7 ∈ allw := tw 96 (by decide +kernel) (by decide +kernel)
theorem w244 : Cond.constantLong RX3 237 31 ∈ allw := tw 102 (by decide +kernel) (by decide +kernel)
theorem w245 : Cond.methodLink RX3 233 yX2_addTo ∈ allw := tw 97 (by decide +kernel) (by decide +kernel)
theorem w246 : Cond.code yX2_addTo cX2_addTo 6 (some .long) ∈ allw := tw 100 (by decide +kernel) (by decide +kernel)
theorem w247 : Cond.instanceMethod yX2_addTo ∈ allw := tw 98 (by decide +kernel) (by decide +kernel)
theorem w248 : Cond.selects RX2 yX2_addTo yX2_addTo ∈ allw := tw 99 (by decide +kernel) (by decide +kernel)
theorem w249 : Cond.methodLink RX3 242 yX1_placesAreDue ∈ allw := tw 111 (by decide +kernel) (by decide +kernel)
theorem w250 : Cond.code yX1_placesAreDue cX1_placesAreDue 4 (some .boolean) ∈ allw := tw 114 (by decide +kernel) (by decide +kernel)
theorem w251 : Cond.instanceMethod yX1_placesAreDue ∈ allw := tw 112 (by decide +kernel) (by decide +kernel)
theorem w252 : Cond.selects RX1 yX1_placesAreDue yX1_placesAreDue ∈ allw := tw 113 (by decide +kernel) (by decide +kernel)
theorem w253 : Cond.fieldLinkNest RX3 246 (TX1 1).1 (TX1 1).2.1 (TX1 1).2.2.1 "Teethrow" ∈ nwl := List.mem_filter.mpr ⟨List.mem_of_getElem? (i := 41) (by decide +kernel), rfl⟩
theorem w254 : Cond.methodLink RX3 249 yX3_strokesOnCopyAsDue ∈ allw := tw 133 (by decide +kernel) (by decide +kernel)
theorem w255 : Cond.code yX3_strokesOnCopyAsDue cX3_strokesOnCopyAsDue 4 (some .boolean) ∈ allw := tw 136 (by decide +kernel) (by decide +kernel)
theorem w256 : Cond.instanceMethod yX3_strokesOnCopyAsDue ∈ allw := tw 135 (by decide +kernel) (by decide +kernel)
theorem w257 : Cond.selects RX3 yX3_strokesOnCopyAsDue yX3_strokesOnCopyAsDue ∈ allw := sw 1 (by decide +kernel) (by decide +kernel)
theorem w258 : Cond.methodLink RX3 239 yX3_isSoundTool ∈ allw := tw 107 (by decide +kernel) (by decide +kernel)
theorem w259 : Cond.code yX3_isSoundTool cX3_isSoundTool 2 (some .boolean) ∈ allw := tw 110 (by decide +kernel) (by decide +kernel)
theorem w260 : Cond.instanceMethod yX3_isSoundTool ∈ allw := tw 109 (by decide +kernel) (by decide +kernel)
theorem w261 : Cond.selects RX3 yX3_isSoundTool yX3_isSoundTool ∈ allw := sw 0 (by decide +kernel) (by decide +kernel)
theorem w262 : Cond.fieldLink RX4 88 (TX4 0).1 (TX4 0).2.1 (TX4 0).2.2.1 ∈ allw := tw 771 (by decide +kernel) (by decide +kernel)
theorem w263 : Cond.fieldLink RX4 91 (TX4 1).1 (TX4 1).2.1 (TX4 1).2.2.1 ∈ allw := tw 772 (by decide +kernel) (by decide +kernel)
theorem w264 : Cond.methodLink RX4 94 yX4_isBetween ∈ allw := tw 869 (by decide +kernel) (by decide +kernel)
theorem w265 : Cond.code yX4_isBetween cX4_isBetween 3 (some .boolean) ∈ allw := tw 871 (by decide +kernel) (by decide +kernel)
theorem w266 : Cond.initialized RX4 ∈ allw := tw 3 (by decide +kernel) (by decide +kernel)
theorem w267 : Cond.static yX4_isBetween ∈ allw := tw 870 (by decide +kernel) (by decide +kernel)
theorem w268 : Cond.methodLink RX4 98 yX4_isWrong ∈ allw := tw 872 (by decide +kernel) (by decide +kernel)
theorem w269 : Cond.code yX4_isWrong cX4_isWrong 2 (some .boolean) ∈ allw := tw 875 (by decide +kernel) (by decide +kernel)
theorem w270 : Cond.instanceMethod yX4_isWrong ∈ allw := tw 874 (by decide +kernel) (by decide +kernel)
theorem w271 : Cond.selects RX4 yX4_isWrong yX4_isWrong ∈ allw := sw 5 (by decide +kernel) (by decide +kernel)
theorem w272 : Cond.methodLink RX4 102 yX4_depthOf ∈ allw := tw 887 (by decide +kernel) (by decide +kernel)
theorem w273 : Cond.code yX4_depthOf cX4_depthOf 2 (some .int) ∈ allw := tw 889 (by decide +kernel) (by decide +kernel)
theorem w274 : Cond.static yX4_depthOf ∈ allw := tw 888 (by decide +kernel) (by decide +kernel)
theorem w275 : Cond.methodLink RX4 106 yX4_pitchOf ∈ allw := tw 894 (by decide +kernel) (by decide +kernel)
theorem w276 : Cond.code yX4_pitchOf cX4_pitchOf 1 (some .int) ∈ allw := tw 896 (by decide +kernel) (by decide +kernel)
theorem w277 : Cond.static yX4_pitchOf ∈ allw := tw 895 (by decide +kernel) (by decide +kernel)
theorem w278 : Cond.methodLink RX4 110 yX4_depth ∈ allw := tw 897 (by decide +kernel) (by decide +kernel)
theorem w279 : Cond.code yX4_depth cX4_depth 2 (some .int) ∈ allw := tw 900 (by decide +kernel) (by decide +kernel)
theorem w280 : Cond.instanceMethod yX4_depth ∈ allw := tw 899 (by decide +kernel) (by decide +kernel)
theorem w281 : Cond.selects RX4 yX4_depth yX4_depth ∈ allw := sw 8 (by decide +kernel) (by decide +kernel)
theorem w282 : Cond.methodLink RX4 114 yX4_full ∈ allw := tw 1046 (by decide +kernel) (by decide +kernel)
theorem w283 : Cond.code yX4_full cX4_full 2 (some .int) ∈ allw := tw 1049 (by decide +kernel) (by decide +kernel)
theorem w284 : Cond.instanceMethod yX4_full ∈ allw := tw 1048 (by decide +kernel) (by decide +kernel)
theorem w285 : Cond.selects RX4 yX4_full yX4_full ∈ allw := sw 16 (by decide +kernel) (by decide +kernel)
theorem w286 : Cond.methodLink RX4 121 yX4_isNone ∈ allw := tw 880 (by decide +kernel) (by decide +kernel)
theorem w287 : Cond.code yX4_isNone cX4_isNone 2 (some .boolean) ∈ allw := tw 883 (by decide +kernel) (by decide +kernel)
theorem w288 : Cond.instanceMethod yX4_isNone ∈ allw := tw 882 (by decide +kernel) (by decide +kernel)
theorem w289 : Cond.selects RX4 yX4_isNone yX4_isNone ∈ allw := sw 6 (by decide +kernel) (by decide +kernel)
theorem w290 : Cond.methodLink RX4 141 yX4_holds ∈ allw := tw 948 (by decide +kernel) (by decide +kernel)
theorem w291 : Cond.code yX4_holds cX4_holds 2 (some .int) ∈ allw := tw 951 (by decide +kernel) (by decide +kernel)
theorem w292 : Cond.instanceMethod yX4_holds ∈ allw := tw 950 (by decide +kernel) (by decide +kernel)
theorem w293 : Cond.selects RX4 yX4_holds yX4_holds ∈ allw := sw 11 (by decide +kernel) (by decide +kernel)
theorem w294 : Cond.methodLink RX4 144 yX4_least ∈ allw := tw 964 (by decide +kernel) (by decide +kernel)
theorem w295 : Cond.code yX4_least cX4_least 2 (some .int) ∈ allw := tw 966 (by decide +kernel) (by decide +kernel)
theorem w296 : Cond.static yX4_least ∈ allw := tw 965 (by decide +kernel) (by decide +kernel)
theorem w297 : Cond.fieldLink RX4 155 (TX4 23).1 (TX4 23).2.1 (TX4 23).2.2.1 ∈ allw := tw 794 (by decide +kernel) (by decide +kernel)
theorem w298 : Cond.methodLink RX4 138 yX4_doesSing ∈ allw := tw 932 (by decide +kernel) (by decide +kernel)
theorem w299 : Cond.code yX4_doesSing cX4_doesSing 2 (some .boolean) ∈ allw := tw 935 (by decide +kernel) (by decide +kernel)
theorem w300 : Cond.instanceMethod yX4_doesSing ∈ allw := tw 934 (by decide +kernel) (by decide +kernel)
theorem w301 : Cond.selects RX4 yX4_doesSing yX4_doesSing ∈ allw := sw 10 (by decide +kernel) (by decide +kernel)
theorem w302 : Cond.methodLink RX4 158 yX4_worn ∈ allw := tw 1042 (by decide +kernel) (by decide +kernel)
theorem w303 : Cond.code yX4_worn cX4_worn 4 (some .int) ∈ allw := tw 1045 (by decide +kernel) (by decide +kernel)
theorem w304 : Cond.instanceMethod yX4_worn ∈ allw := tw 1044 (by decide +kernel) (by decide +kernel)
theorem w305 : Cond.selects RX4 yX4_worn yX4_worn ∈ allw := sw 15 (by decide +kernel) (by decide +kernel)
theorem w306 : Cond.methodLink RX4 161 yX4_isWorked ∈ allw := tw 1050 (by decide +kernel) (by decide +kernel)
theorem w307 : Cond.code yX4_isWorked cX4_isWorked 4 (some .boolean) ∈ allw := tw 1053 (by decide +kernel) (by decide +kernel)
theorem w308 : Cond.instanceMethod yX4_isWorked ∈ allw := tw 1052 (by decide +kernel) (by decide +kernel)
theorem w309 : Cond.selects RX4 yX4_isWorked yX4_isWorked ∈ allw := sw 17 (by decide +kernel) (by decide +kernel)
theorem w310 : Cond.methodLink RX4 117 yX4_isShape ∈ allw := tw 866 (by decide +kernel) (by decide +kernel)
theorem w311 : Cond.code yX4_isShape cX4_isShape 1 (some .boolean) ∈ allw := tw 868 (by decide +kernel) (by decide +kernel)
theorem w312 : Cond.static yX4_isShape ∈ allw := tw 867 (by decide +kernel) (by decide +kernel)
theorem w313 : Cond.methodLink RX4 124 yX4_isCut ∈ allw := tw 884 (by decide +kernel) (by decide +kernel)
theorem w314 : Cond.code yX4_isCut cX4_isCut 1 (some .boolean) ∈ allw := tw 886 (by decide +kernel) (by decide +kernel)
theorem w315 : Cond.static yX4_isCut ∈ allw := tw 885 (by decide +kernel) (by decide +kernel)
theorem w316 : Cond.methodLink RX4 127 yX4_placeOf ∈ allw := tw 890 (by decide +kernel) (by decide +kernel)
theorem w317 : Cond.code yX4_placeOf cX4_placeOf 5 (some .int) ∈ allw := tw 893 (by decide +kernel) (by decide +kernel)
theorem w318 : Cond.instanceMethod yX4_placeOf ∈ allw := tw 892 (by decide +kernel) (by decide +kernel)
theorem w319 : Cond.selects RX4 yX4_placeOf yX4_placeOf ∈ allw := sw 7 (by decide +kernel) (by decide +kernel)
theorem w320 : Cond.methodLink RX4 131 yX4_most ∈ allw := tw 905 (by decide +kernel) (by decide +kernel)
theorem w321 : Cond.code yX4_most cX4_most 2 (some .int) ∈ allw := tw 907 (by decide +kernel) (by decide +kernel)
theorem w322 : Cond.static yX4_most ∈ allw := tw 906 (by decide +kernel) (by decide +kernel)
theorem w323 : Cond.methodLink RX4 134 yX4_isNoTooth ∈ allw := tw 916 (by decide +kernel) (by decide +kernel)
theorem w324 : Cond.code yX4_isNoTooth cX4_isNoTooth 3 (some .boolean) ∈ allw := tw 919 (by decide +kernel) (by decide +kernel)
theorem w325 : Cond.instanceMethod yX4_isNoTooth ∈ allw := tw 918 (by decide +kernel) (by decide +kernel)
theorem w326 : Cond.selects RX4 yX4_isNoTooth yX4_isNoTooth ∈ allw := sw 9 (by decide +kernel) (by decide +kernel)
theorem w327 : Cond.constantLong RX4 147 48271 ∈ allw := tw 967 (by decide +kernel) (by decide +kernel)
theorem w328 : Cond.constantLong RX4 149 2147483647 ∈ allw := tw 968 (by decide +kernel) (by decide +kernel)
theorem w329 : Cond.constant RX4 151 2147483646 ∈ allw := tw 989 (by decide +kernel) (by decide +kernel)
theorem w330 : Cond.methodLink RX4 152 yX4_stroke ∈ allw := tw 994 (by decide +kernel) (by decide +kernel)
theorem w331 : Cond.code yX4_stroke cX4_stroke 6 (some .int) ∈ allw := tw 997 (by decide +kernel) (by decide +kernel)
theorem w332 : Cond.instanceMethod yX4_stroke ∈ allw := tw 996 (by decide +kernel) (by decide +kernel)
theorem w333 : Cond.selects RX4 yX4_stroke yX4_stroke ∈ allw := sw 12 (by decide +kernel) (by decide +kernel)
theorem w334 : Cond.methodLink RX4 164 yX4_isNoOrder ∈ allw := tw 1034 (by decide +kernel) (by decide +kernel)
theorem w335 : Cond.code yX4_isNoOrder cX4_isNoOrder 2 (some .boolean) ∈ allw := tw 1037 (by decide +kernel) (by decide +kernel)
theorem w336 : Cond.instanceMethod yX4_isNoOrder ∈ allw := tw 1036 (by decide +kernel) (by decide +kernel)
theorem w337 : Cond.selects RX4 yX4_isNoOrder yX4_isNoOrder ∈ allw := sw 13 (by decide +kernel) (by decide +kernel)
theorem w338 : Cond.methodLink RX4 167 yX4_fits ∈ allw := tw 1038 (by decide +kernel) (by decide +kernel)
theorem w339 : Cond.code yX4_fits cX4_fits 4 (some .boolean) ∈ allw := tw 1041 (by decide +kernel) (by decide +kernel)
theorem w340 : Cond.instanceMethod yX4_fits ∈ allw := tw 1040 (by decide +kernel) (by decide +kernel)
theorem w341 : Cond.selects RX4 yX4_fits yX4_fits ∈ allw := sw 14 (by decide +kernel) (by decide +kernel)
theorem w342 : Cond.constantLong RX4 170 7 ∈ allw := tw 1074 (by decide +kernel) (by decide +kernel)
theorem w343 : Cond.constantLong RX4 172 31 ∈ allw := tw 1075 (by decide +kernel) (by decide +kernel)
