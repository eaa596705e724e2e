theorem w388 : Cond.methodLink RL 7 yX3_blank ∈ allw := tw 180 (by decide +kernel) (by decide +kernel)
theorem w389 : Cond.code yX3_blank cX3_blank 5 (some .int) ∈ allw := tw 183 (by decide +kernel) (by decide +kernel)
theorem w390 : Cond.instanceMethod yX3_blank ∈ allw := tw 181 (by decide +kernel) (by decide +kernel)
theorem w391 : Cond.selects RX3 yX3_blank yX3_blank ∈ allw := tw 182 (by decide +kernel) (by decide +kernel)
theorem w392 : Cond.classLink RL 13 (exn 2) ∈ allw := tw 178 (by decide +kernel) (by decide +kernel)
theorem w393 : Cond.classLink RL 15 (exn 3) ∈ allw := tw 179 (by decide +kernel) (by decide +kernel)
theorem w394 : Cond.castable (exn 2) (exn 2) ∈ nwl := List.mem_filter.mpr ⟨List.mem_of_getElem? (i := 189) (by decide +kernel), rfl⟩
theorem w395 : Cond.castable (exn 3) (exn 3) ∈ nwl := List.mem_filter.mpr ⟨List.mem_of_getElem? (i := 265) (by decide +kernel), rfl⟩
theorem w396 : Cond.methodLink RL 17 yX3_cut ∈ allw := tw 375 (by decide +kernel) (by decide +kernel)
theorem w397 : Cond.code yX3_cut cX3_cut 6 (some .int) ∈ allw := tw 378 (by decide +kernel) (by decide +kernel)
theorem w398 : Cond.instanceMethod yX3_cut ∈ allw := tw 376 (by decide +kernel) (by decide +kernel)
theorem w399 : Cond.selects RX3 yX3_cut yX3_cut ∈ allw := tw 377 (by decide +kernel) (by decide +kernel)
theorem w400 : Cond.classLink RL 21 (exn 1) ∈ allw := tw 350 (by decide +kernel) (by decide +kernel)
theorem w401 : Cond.classLink RL 23 (exn 4) ∈ allw := tw 374 (by decide +kernel) (by decide +kernel)
theorem w402 : Cond.castable (exn 1) (exn 1) ∈ nwl := List.mem_filter.mpr ⟨List.mem_of_getElem? (i := 385) (by decide +kernel), rfl⟩
theorem w403 : Cond.castable (exn 4) (exn 4) ∈ nwl := List.mem_filter.mpr ⟨List.mem_of_getElem? (i := 405) (by decide +kernel), rfl⟩
theorem w404 : Cond.methodLink RL 25 yX3_upcut ∈ allw := tw 426 (by decide +kernel) (by decide +kernel)
theorem w405 : Cond.code yX3_upcut cX3_upcut 3 (some .int) ∈ allw := tw 429 (by decide +kernel) (by decide +kernel)
theorem w406 : Cond.instanceMethod yX3_upcut ∈ allw := tw 427 (by decide +kernel) (by decide +kernel)
theorem w407 : Cond.selects RX3 yX3_upcut yX3_upcut ∈ allw := tw 428 (by decide +kernel) (by decide +kernel)
theorem w408 : Cond.methodLink RL 29 yX3_teeth ∈ allw := tw 438 (by decide +kernel) (by decide +kernel)
theorem w409 : Cond.code yX3_teeth cX3_teeth 2 (some .int) ∈ allw := tw 441 (by decide +kernel) (by decide +kernel)
theorem w410 : Cond.instanceMethod yX3_teeth ∈ allw := tw 439 (by decide +kernel) (by decide +kernel)
theorem w411 : Cond.selects RX3 yX3_teeth yX3_teeth ∈ allw := tw 440 (by decide +kernel) (by decide +kernel)
theorem w412 : Cond.methodLink RL 32 yX3_place ∈ allw := tw 446 (by decide +kernel) (by decide +kernel)
theorem w413 : Cond.code yX3_place cX3_place 4 (some .int) ∈ allw := tw 449 (by decide +kernel) (by decide +kernel)
theorem w414 : Cond.instanceMethod yX3_place ∈ allw := tw 447 (by decide +kernel) (by decide +kernel)
theorem w415 : Cond.selects RX3 yX3_place yX3_place ∈ allw := tw 448 (by decide +kernel) (by decide +kernel)
theorem w416 : Cond.classLink RL 36 (exn 5) ∈ allw := tw 445 (by decide +kernel) (by decide +kernel)
theorem w417 : Cond.castable (exn 5) (exn 5) ∈ nwl := List.mem_filter.mpr ⟨List.mem_of_getElem? (i := 455) (by decide +kernel), rfl⟩
theorem w418 : Cond.methodLink RL 38 yX3_height ∈ allw := tw 472 (by decide +kernel) (by decide +kernel)
theorem w419 : Cond.code yX3_height cX3_height 4 (some .int) ∈ allw := tw 475 (by decide +kernel) (by decide +kernel)
theorem w420 : Cond.instanceMethod yX3_height ∈ allw := tw 473 (by decide +kernel) (by decide +kernel)
theorem w421 : Cond.selects RX3 yX3_height yX3_height ∈ allw := tw 474 (by decide +kernel) (by decide +kernel)
theorem w422 : Cond.methodLink RL 41 yX3_wear ∈ allw := tw 479 (by decide +kernel) (by decide +kernel)
theorem w423 : Cond.code yX3_wear cX3_wear 4 (some .int) ∈ allw := tw 482 (by decide +kernel) (by decide +kernel)
theorem w424 : Cond.instanceMethod yX3_wear ∈ allw := tw 480 (by decide +kernel) (by decide +kernel)
theorem w425 : Cond.selects RX3 yX3_wear yX3_wear ∈ allw := tw 481 (by decide +kernel) (by decide +kernel)
theorem w426 : Cond.methodLink RL 44 yX3_sings ∈ allw := tw 486 (by decide +kernel) (by decide +kernel)
theorem w427 : Cond.code yX3_sings cX3_sings 2 (some .boolean) ∈ allw := tw 489 (by decide +kernel) (by decide +kernel)
theorem w428 : Cond.instanceMethod yX3_sings ∈ allw := tw 487 (by decide +kernel) (by decide +kernel)
theorem w429 : Cond.selects RX3 yX3_sings yX3_sings ∈ allw := tw 488 (by decide +kernel) (by decide +kernel)
theorem w430 : Cond.methodLink RL 48 yX3_set ∈ allw := tw 497 (by decide +kernel) (by decide +kernel)
theorem w431 : Cond.code yX3_set cX3_set 5 (some .int) ∈ allw := tw 500 (by decide +kernel) (by decide +kernel)
theorem w432 : Cond.instanceMethod yX3_set ∈ allw := tw 498 (by decide +kernel) (by decide +kernel)
theorem w433 : Cond.selects RX3 yX3_set yX3_set ∈ allw := tw 499 (by decide +kernel) (by decide +kernel)
theorem w434 : Cond.methodLink RL 51 yX3_kerf ∈ allw := tw 509 (by decide +kernel) (by decide +kernel)
theorem w435 : Cond.code yX3_kerf cX3_kerf 3 (some .int) ∈ allw := tw 512 (by decide +kernel) (by decide +kernel)
theorem w436 : Cond.instanceMethod yX3_kerf ∈ allw := tw 510 (by decide +kernel) (by decide +kernel)
theorem w437 : Cond.selects RX3 yX3_kerf yX3_kerf ∈ allw := tw 511 (by decide +kernel) (by decide +kernel)
theorem w438 : Cond.methodLink RL 54 yX3_gullets ∈ allw := tw 516 (by decide +kernel) (by decide +kernel)
theorem w439 : Cond.code yX3_gullets cX3_gullets 2 (some .int) ∈ allw := tw 519 (by decide +kernel) (by decide +kernel)
theorem w440 : Cond.instanceMethod yX3_gullets ∈ allw := tw 517 (by decide +kernel) (by decide +kernel)
theorem w441 : Cond.selects RX3 yX3_gullets yX3_gullets ∈ allw := tw 518 (by decide +kernel) (by decide +kernel)
theorem w442 : Cond.methodLink RL 57 yX3_thickness ∈ allw := tw 523 (by decide +kernel) (by decide +kernel)
theorem w443 : Cond.code yX3_thickness cX3_thickness 2 (some .int) ∈ allw := tw 526 (by decide +kernel) (by decide +kernel)
theorem w444 : Cond.instanceMethod yX3_thickness ∈ allw := tw 524 (by decide +kernel) (by decide +kernel)
theorem w445 : Cond.selects RX3 yX3_thickness yX3_thickness ∈ allw := tw 525 (by decide +kernel) (by decide +kernel)
theorem w446 : Cond.methodLink RL 60 yX3_state ∈ allw := tw 530 (by decide +kernel) (by decide +kernel)
theorem w447 : Cond.code yX3_state cX3_state 2 (some .char) ∈ allw := tw 533 (by decide +kernel) (by decide +kernel)
theorem w448 : Cond.instanceMethod yX3_state ∈ allw := tw 531 (by decide +kernel) (by decide +kernel)
theorem w449 : Cond.selects RX3 yX3_state yX3_state ∈ allw := tw 532 (by decide +kernel) (by decide +kernel)
theorem w450 : Cond.methodLink RL 64 yX3_harden ∈ allw := tw 537 (by decide +kernel) (by decide +kernel)
theorem w451 : Cond.code yX3_harden cX3_harden 5 (some .int) ∈ allw := tw 540 (by decide +kernel) (by decide +kernel)
theorem w452 : Cond.instanceMethod yX3_harden ∈ allw := tw 538 (by decide +kernel) (by decide +kernel)
theorem w453 : Cond.selects RX3 yX3_harden yX3_harden ∈ allw := tw 539 (by decide +kernel) (by decide +kernel)
theorem w454 : Cond.methodLink RL 68 yX3_hardness ∈ allw := tw 559 (by decide +kernel) (by decide +kernel)
theorem w455 : Cond.code yX3_hardness cX3_hardness 2 (some .int) ∈ allw := tw 562 (by decide +kernel) (by decide +kernel)
theorem w456 : Cond.instanceMethod yX3_hardness ∈ allw := tw 560 (by decide +kernel) (by decide +kernel)
theorem w457 : Cond.selects RX3 yX3_hardness yX3_hardness ∈ allw := tw 561 (by decide +kernel) (by decide +kernel)
theorem w458 : Cond.methodLink RL 71 yX3_bend ∈ allw := tw 566 (by decide +kernel) (by decide +kernel)
theorem w459 : Cond.code yX3_bend cX3_bend 2 (some .int) ∈ allw := tw 569 (by decide +kernel) (by decide +kernel)
theorem w460 : Cond.instanceMethod yX3_bend ∈ allw := tw 567 (by decide +kernel) (by decide +kernel)
theorem w461 : Cond.selects RX3 yX3_bend yX3_bend ∈ allw := tw 568 (by decide +kernel) (by decide +kernel)
theorem w462 : Cond.methodLink RL 74 yX3_temper ∈ allw := tw 573 (by decide +kernel) (by decide +kernel)
theorem w463 : Cond.code yX3_temper cX3_temper 4 (some .int) ∈ allw := tw 576 (by decide +kernel) (by decide +kernel)
theorem w464 : Cond.instanceMethod yX3_temper ∈ allw := tw 574 (by decide +kernel) (by decide +kernel)
theorem w465 : Cond.selects RX3 yX3_temper yX3_temper ∈ allw := tw 575 (by decide +kernel) (by decide +kernel)
theorem w466 : Cond.methodLink RL 77 yX3_straighten ∈ allw := tw 585 (by decide +kernel) (by decide +kernel)
theorem w467 : Cond.code yX3_straighten cX3_straighten 4 (some .int) ∈ allw := tw 588 (by decide +kernel) (by decide +kernel)
theorem w468 : Cond.instanceMethod yX3_straighten ∈ allw := tw 586 (by decide +kernel) (by decide +kernel)
theorem w469 : Cond.selects RX3 yX3_straighten yX3_straighten ∈ allw := tw 587 (by decide +kernel) (by decide +kernel)
theorem w470 : Cond.methodLink RL 80 yX3_seed ∈ allw := tw 593 (by decide +kernel) (by decide +kernel)
theorem w471 : Cond.code yX3_seed cX3_seed 3 (some .int) ∈ allw := tw 596 (by decide +kernel) (by decide +kernel)
theorem w472 : Cond.instanceMethod yX3_seed ∈ allw := tw 594 (by decide +kernel) (by decide +kernel)
theorem w473 : Cond.selects RX3 yX3_seed yX3_seed ∈ allw := tw 595 (by decide +kernel) (by decide +kernel)
theorem w474 : Cond.methodLink RL 83 yX3_strokes ∈ allw := tw 601 (by decide +kernel) (by decide +kernel)
theorem w475 : Cond.code yX3_strokes cX3_strokes 5 (some .int) ∈ allw := tw 604 (by decide +kernel) (by decide +kernel)
theorem w476 : Cond.instanceMethod yX3_strokes ∈ allw := tw 602 (by decide +kernel) (by decide +kernel)
theorem w477 : Cond.selects RX3 yX3_strokes yX3_strokes ∈ allw := tw 603 (by decide +kernel) (by decide +kernel)
theorem w478 : Cond.methodLink RL 87 yX3_chips ∈ allw := tw 615 (by decide +kernel) (by decide +kernel)
theorem w479 : Cond.code yX3_chips cX3_chips 2 (some .int) ∈ allw := tw 618 (by decide +kernel) (by decide +kernel)
theorem w480 : Cond.instanceMethod yX3_chips ∈ allw := tw 616 (by decide +kernel) (by decide +kernel)
theorem w481 : Cond.selects RX3 yX3_chips yX3_chips ∈ allw := tw 617 (by decide +kernel) (by decide +kernel)
theorem w482 : Cond.methodLink RL 90 yX3_brush ∈ allw := tw 622 (by decide +kernel) (by decide +kernel)
theorem w483 : Cond.code yX3_brush cX3_brush 4 (some .int) ∈ allw := tw 625 (by decide +kernel) (by decide +kernel)
theorem w484 : Cond.instanceMethod yX3_brush ∈ allw := tw 623 (by decide +kernel) (by decide +kernel)
theorem w485 : Cond.selects RX3 yX3_brush yX3_brush ∈ allw := tw 624 (by decide +kernel) (by decide +kernel)
theorem w486 : Cond.methodLink RL 93 yX3_work ∈ allw := tw 629 (by decide +kernel) (by decide +kernel)
theorem w487 : Cond.code yX3_work cX3_work 2 (some .int) ∈ allw := tw 632 (by decide +kernel) (by decide +kernel)
theorem w488 : Cond.instanceMethod yX3_work ∈ allw := tw 630 (by decide +kernel) (by decide +kernel)
theorem w489 : Cond.selects RX3 yX3_work yX3_work ∈ allw := tw 631 (by decide +kernel) (by decide +kernel)
theorem w490 : Cond.methodLink RL 96 yX3_soften ∈ allw := tw 636 (by decide +kernel) (by decide +kernel)
theorem w491 : Cond.code yX3_soften cX3_soften 4 (some .int) ∈ allw := tw 639 (by decide +kernel) (by decide +kernel)
theorem w492 : Cond.instanceMethod yX3_soften ∈ allw := tw 637 (by decide +kernel) (by decide +kernel)
theorem w493 : Cond.selects RX3 yX3_soften yX3_soften ∈ allw := tw 638 (by decide +kernel) (by decide +kernel)
theorem w494 : Cond.methodLink RL 99 yX3_grind ∈ allw := tw 643 (by decide +kernel) (by decide +kernel)
theorem w495 : Cond.code yX3_grind cX3_grind 3 (some .int) ∈ allw := tw 646 (by decide +kernel) (by decide +kernel)
theorem w496 : Cond.instanceMethod yX3_grind ∈ allw := tw 644 (by decide +kernel) (by decide +kernel)
theorem w497 : Cond.selects RX3 yX3_grind yX3_grind ∈ allw := tw 645 (by decide +kernel) (by decide +kernel)
theorem w498 : Cond.methodLink RL 102 yX3_recuts ∈ allw := tw 664 (by decide +kernel) (by decide +kernel)
theorem w499 : Cond.code yX3_recuts cX3_recuts 2 (some .int) ∈ allw := tw 667 (by decide +kernel) (by decide +kernel)
theorem w500 : Cond.instanceMethod yX3_recuts ∈ allw := tw 665 (by decide +kernel) (by decide +kernel)
theorem w501 : Cond.selects RX3 yX3_recuts yX3_recuts ∈ allw := tw 666 (by decide +kernel) (by decide +kernel)
theorem w502 : Cond.methodLink RL 105 yX3_recutsLeft ∈ allw := tw 671 (by decide +kernel) (by decide +kernel)
theorem w503 : Cond.code yX3_recutsLeft cX3_recutsLeft 7 (some .int) ∈ allw := tw 674 (by decide +kernel) (by decide +kernel)
theorem w504 : Cond.instanceMethod yX3_recutsLeft ∈ allw := tw 672 (by decide +kernel) (by decide +kernel)
theorem w505 : Cond.selects RX3 yX3_recutsLeft yX3_recutsLeft ∈ allw := tw 673 (by decide +kernel) (by decide +kernel)
theorem w506 : Cond.methodLink RL 109 yX3_order ∈ allw := tw 678 (by decide +kernel) (by decide +kernel)
theorem w507 : Cond.code yX3_order cX3_order 4 (some .int) ∈ allw := tw 681 (by decide +kernel) (by decide +kernel)
theorem w508 : Cond.instanceMethod yX3_order ∈ allw := tw 679 (by decide +kernel) (by decide +kernel)
theorem w509 : Cond.selects RX3 yX3_order yX3_order ∈ allw := tw 680 (by decide +kernel) (by decide +kernel)
theorem w510 : Cond.methodLink RL 113 yX3_isGood ∈ allw := tw 705 (by decide +kernel) (by decide +kernel)
theorem w511 : Cond.code yX3_isGood cX3_isGood 4 (some .boolean) ∈ allw := tw 708 (by decide +kernel) (by decide +kernel)
theorem w512 : Cond.instanceMethod yX3_isGood ∈ allw := tw 706 (by decide +kernel) (by decide +kernel)
theorem w513 : Cond.selects RX3 yX3_isGood yX3_isGood ∈ allw := tw 707 (by decide +kernel) (by decide +kernel)
theorem w514 : Cond.methodLink RL 117 yX3_send ∈ allw := tw 730 (by decide +kernel) (by decide +kernel)
theorem w515 : Cond.code yX3_send cX3_send 5 (some .int) ∈ allw := tw 733 (by decide +kernel) (by decide +kernel)
theorem w516 : Cond.instanceMethod yX3_send ∈ allw := tw 731 (by decide +kernel) (by decide +kernel)
theorem w517 : Cond.selects RX3 yX3_send yX3_send ∈ allw := tw 732 (by decide +kernel) (by decide +kernel)
theorem w518 : Cond.methodLink RL 120 yX3_sent ∈ allw := tw 738 (by decide +kernel) (by decide +kernel)
theorem w519 : Cond.code yX3_sent cX3_sent 2 (some .int) ∈ allw := tw 741 (by decide +kernel) (by decide +kernel)
theorem w520 : Cond.instanceMethod yX3_sent ∈ allw := tw 739 (by decide +kernel) (by decide +kernel)
theorem w521 : Cond.selects RX3 yX3_sent yX3_sent ∈ allw := tw 740 (by decide +kernel) (by decide +kernel)
theorem w522 : Cond.methodLink RL 123 yX3_wornShare ∈ allw := tw 759 (by decide +kernel) (by decide +kernel)
theorem w523 : Cond.code yX3_wornShare cX3_wornShare 4 (some .float) ∈ allw := tw 762 (by decide +kernel) (by decide +kernel)
theorem w524 : Cond.instanceMethod yX3_wornShare ∈ allw := tw 760 (by decide +kernel) (by decide +kernel)
theorem w525 : Cond.selects RX3 yX3_wornShare yX3_wornShare ∈ allw := tw 761 (by decide +kernel) (by decide +kernel)
theorem w526 : Cond.classLink RL 127 (exn 6) ∈ allw := tw 745 (by decide +kernel) (by decide +kernel)
theorem w527 : Cond.castable (exn 6) (exn 6) ∈ nwl := List.mem_filter.mpr ⟨List.mem_of_getElem? (i := 757) (by decide +kernel), rfl⟩
theorem w528 : Cond.methodLink RL 129 yX3_meanHardness ∈ allw := tw 773 (by decide +kernel) (by decide +kernel)
theorem w529 : Cond.code yX3_meanHardness cX3_meanHardness 4 (some .double) ∈ allw := tw 776 (by decide +kernel) (by decide +kernel)
theorem w530 : Cond.instanceMethod yX3_meanHardness ∈ allw := tw 774 (by decide +kernel) (by decide +kernel)
theorem w531 : Cond.selects RX3 yX3_meanHardness yX3_meanHardness ∈ allw := tw 775 (by decide +kernel) (by decide +kernel)
section
variable {p : Program} {l : Launch} {e : Env} {R : Room} {s : State} {m : MethodId} {args : Array Value} {below : List Frame} {meth : Method} {c : Code} {D : va_G} {cy : Nat → ClassId} {n0 : Nat} {ad : Nat → Nat → Nat} {nT nO : Nat}
theorem qc70 {R : Room} {s : State} {args : Array Value} (ht : ∀ w ∈ allw, w.before args s = true) (hR : (rmX3_blank).frames + 1 ≤ R.frames ∧ 8 + (5 + 11) + (rmX3_blank).locals ≤ R.locals) : CallW R s args RL RX3 7 yX3_blank cX3_blank 5 (some .int) (wm yX3_blank cX3_blank 5 (some .int)) rmX3_blank 9 226 4 := cwV 4 ht (gd_of (fun _ h => h) _ (mV w388 w390 w391 w64 w389)) rfl rfl rfl (by decide +kernel) hR
def rmL_blank : Room := { frames := 8, cells := 9, slots := 226, locals := 136 }
def f_L_blank (σ : Sg) (x1 : Int32) (x2 : Int32) (x3 : Int32) (x4 : Int32) : Option (Int32 × Sg) :=
  bx (f_X3_blank σ x1 x2 x3 x4) (fun r1 => (some (0, svo r1.2 (r1.1 : Int32).toInt64))) (fun x => (if x.1 = 2 then some (1, x.2) else (if x.1 = 3 then some (2, x.2) else none)))
set_option maxRecDepth 100000 in
set_option maxHeartbeats 8000000 in
theorem c_L_blank (hst : l.stackTraces = false) (σ : Sg) (x1 : Int32) (x2 : Int32) (x3 : Int32) (x4 : Int32) : CtH l yL_blank (wh yL_blank cL_blank 7 (some .int) [(0, 14, 17, 13), (0, 14, 21, 15)]) rmL_blank 9 226 [.ref (ad 0 0), .int x1, .int x2, .int x3, .int x4, .ref (ad 12 0)] D cy n0 ad nT nO σ (f_L_blank σ x1 x2 x3 x4) := by
  intro r0 h0
  refine vx_ofWH (cc := cL_blank) (maxL := 7) (ret := (some .int)) (hh := [(0, 14, 17, 13), (0, 14, 21, 15)]) (by decide +kernel) rfl ?_
  intro p e s m args below meth c s₁ B hml hv
  have htab : c.exceptionTable.toList = tableOf [(0, 14, 17, 13), (0, 14, 21, 15)] := vx_table (x := yL_blank) (y := yL_blank) B (atoms_spec (ws := (wh yL_blank cL_blank 7 (some .int) [(0, 14, 17, 13), (0, 14, 21, 15)])) B.pre _ List.mem_cons_self)
  obtain ⟨C0, hh, hR, rfl⟩ := ent B hml hst hv
  rw [lg_entry_eq]
  have hl := lv_entry ([.ref (ad 0 0), .int x1, .int x2, .int x3, .int x4, .ref (ad 12 0)]) (n := 7) (Nat.le_of_ble_eq_true rfl)
  generalize (lg_sl ([.ref (ad 0 0), .int x1, .int x2, .int x3, .int x4, .ref (ad 12 0)]) ++ List.replicate (7 - (lg_sl ([.ref (ad 0 0), .int x1, .int x2, .int x3, .int x4, .ref (ad 12 0)])).length) Slot.unset).toArray = ls at hl ⊢
  have hl : lv_has ls 7 [(0, .ref (ad 0 0)), (1, .int x1), (2, .int x2), (3, .int x3), (4, .int x4), (5, .ref (ad 12 0))] := hl
  refine (show Sm (QH below _ s D cy n0 ad 9 226) (f_L_blank σ x1 x2 x3 x4) p l e rmL_blank s m _ below meth c s.heap [] 0 0 (F0 m 0 ls []) from ?_) r0 h0
  unfold f_L_blank
  refine s_aload C0 dL_blank_0 (lv_at hl 5 rfl) ?_
  refine s_iconst (v := 0) C0 dL_blank_2 (by decide) ?_
  refine s_aload_n C0 dL_blank_3 rfl (lv_at hl 0 rfl) ?_
  refine s_iload_n C0 dL_blank_4 rfl (lv_at hl 1 rfl) ?_
  refine s_iload_n C0 dL_blank_5 rfl (lv_at hl 2 rfl) ?_
  refine s_iload_n C0 dL_blank_6 rfl (lv_at hl 3 rfl) ?_
  refine s_iload C0 dL_blank_7 (lv_at hl 4 rfl) ?_
  obtain ⟨q, hq, -⟩ := wd_get (ad := ad) (cy := cy) (σ := σ) (nT := nT) (nO := nO) (rl_b (r := (0, 0)) (by decide))
  refine run_xB (dT := 1) (dO := 0) (As := .ref (ad 0 0) :: [.int x1, .int x2, .int x3, .int x4]) (rest := [.int 0, .ref (ad 12 0)]) hh (fun r ho => vx_runV (As := [.int x1, .int x2, .int x3, .int x4]) (rest := [.int 0, .ref (ad 12 0)]) C0.1 (c_X3_blank C0.2.2.2.2.2.2 σ x1 x2 x3 x4 r ho) (qc70 C0.1.2.2.2.2 ⟨Nat.le_of_ble_eq_true rfl, Nat.le_of_ble_eq_true rfl⟩) ⟨Pw_blind, va_recv C0.2.2.1 hh.1 (q := (RX3, TX3, 6)) (ci := 3) rfl hq, fun U hU hW => ⟨rfl, hh.pw C0 U hU hW⟩⟩ rfl rfl hl.1 rfl (lv_room (Nat.le_of_ble_eq_true rfl)) dL_blank_9 ⟨Nat.le_of_ble_eq_true rfl, Nat.le_of_ble_eq_true rfl⟩) (fun r x H locs cel q9 hx hh hce hcv hcl => ?_) (fun r1 H locs ad' hax hh => ?_)
  · by_cases e0 : r.1 = 2
    · rw [if_pos e0] at hx; cases hx; rw [e0] at hcl
      refine h_catch C0 [] ⟨0, 14, 17, 13⟩ [⟨0, 14, 21, 15⟩] (by rw [htab]; rfl) (fun _ h => nomatch h) (by decide) (by decide) w392 w394 hce hcv hcl ?_
      refine lv_astore (lv' := [(6, .ref q9), (0, .ref (ad 0 0)), (1, .int x1), (2, .int x2), (3, .int x3), (4, .int x4), (5, .ref (ad 12 0))]) C0.1.1 C0.1.2.1 dL_blank_17 hl (by decide) rfl (fun ls hl => ?_)
      refine lv_iconst (v := 1) C0.1.1 C0.1.2.1 dL_blank_19 (by decide) ?_
      exact h_ret C0 AdX.rf hh hR (Nat.le_of_ble_eq_true rfl) (Nat.le_of_ble_eq_true rfl) dL_blank_20
    rw [if_neg e0] at hx
    by_cases e1 : r.1 = 3
    · rw [if_pos e1] at hx; cases hx; rw [e1] at hcl
      refine h_catch C0 [⟨0, 14, 17, 13⟩] ⟨0, 14, 21, 15⟩ [] (by rw [htab]; rfl) (fun z hz => by
        rcases List.mem_cons.mp hz with rfl | hz
        · exact ⟨2, by decide, w392, by decide⟩
        exact absurd hz List.not_mem_nil) (by decide) (by decide) w393 w395 hce hcv hcl ?_
      refine lv_astore (lv' := [(6, .ref q9), (0, .ref (ad 0 0)), (1, .int x1), (2, .int x2), (3, .int x3), (4, .int x4), (5, .ref (ad 12 0))]) C0.1.1 C0.1.2.1 dL_blank_21 hl (by decide) rfl (fun ls hl => ?_)
      refine lv_iconst (v := 2) C0.1.1 C0.1.2.1 dL_blank_23 (by decide) ?_
      exact h_ret C0 AdX.rf hh hR (Nat.le_of_ble_eq_true rfl) (Nat.le_of_ble_eq_true rfl) dL_blank_24
    rw [if_neg e1] at hx
    cases hx
  · have hl : lv_has ls 7 [(0, .ref (ad' 0 0)), (1, .int x1), (2, .int x2), (3, .int x3), (4, .int x4), (5, .ref (ad' 12 0))] := by rw [hax 0 (by omega), hax 12 (by omega)]; exact hl
    refine s_fr (g' := F0 m 12 ls [.int r1.1, .int 0, .ref (ad' 12 0)]) (by rw [hax 12 (by omega)]) ?_
    refine s_i2l C0 dL_blank_12 rfl ?_
    refine s_last C0 hh dL_blank_13 (fun H locs hh => ?_)
    refine s_goto (tgt := 25) C0 dL_blank_14 (by decide) ?_
    refine s_iconst (v := 0) C0 dL_blank_25 (by decide) ?_
    intro r h; cases h; exact h_ret C0 hax hh hR (Nat.le_of_ble_eq_true rfl) (Nat.le_of_ble_eq_true rfl) dL_blank_26
theorem qc71 {R : Room} {s : State} {args : Array Value} (ht : ∀ w ∈ allw, w.before args s = true) (hR : (rmX3_cut).frames + 1 ≤ R.frames ∧ 8 + (6 + 11) + (rmX3_cut).locals ≤ R.locals) : CallW R s args RL RX3 17 yX3_cut cX3_cut 6 (some .int) (wm yX3_cut cX3_cut 6 (some .int)) rmX3_cut 4 24 3 := cwV 3 ht (gd_of (fun _ h => h) _ (mV w396 w398 w399 w64 w397)) rfl rfl rfl (by decide +kernel) hR
def rmL_cut : Room := { frames := 8, cells := 4, slots := 24, locals := 137 }
def f_L_cut (σ : Sg) (x1 : Int32) (x2 : Int32) (x3 : Int32) : Option (Int32 × Sg) :=
  bx (f_X3_cut σ x1 x2 x3) (fun r1 => (some (0, svo r1.2 (r1.1 : Int32).toInt64))) (fun x => (if x.1 = 1 then some (1, x.2) else (if x.1 = 2 then some (2, x.2) else (if x.1 = 4 then some (3, x.2) else none))))
set_option maxRecDepth 100000 in
set_option maxHeartbeats 8000000 in
theorem c_L_cut (hst : l.stackTraces = false) (σ : Sg) (x1 : Int32) (x2 : Int32) (x3 : Int32) : CtH l yL_cut (wh yL_cut cL_cut 6 (some .int) [(0, 12, 15, 21), (0, 12, 19, 13), (0, 12, 23, 23)]) rmL_cut 4 24 [.ref (ad 0 0), .int x1, .int x2, .int x3, .ref (ad 12 0)] D cy n0 ad nT nO σ (f_L_cut σ x1 x2 x3) := by
  intro r0 h0
  refine vx_ofWH (cc := cL_cut) (maxL := 6) (ret := (some .int)) (hh := [(0, 12, 15, 21), (0, 12, 19, 13), (0, 12, 23, 23)]) (by decide +kernel) rfl ?_
  intro p e s m args below meth c s₁ B hml hv
  have htab : c.exceptionTable.toList = tableOf [(0, 12, 15, 21), (0, 12, 19, 13), (0, 12, 23, 23)] := vx_table (x := yL_cut) (y := yL_cut) B (atoms_spec (ws := (wh yL_cut cL_cut 6 (some .int) [(0, 12, 15, 21), (0, 12, 19, 13), (0, 12, 23, 23)])) B.pre _ List.mem_cons_self)
  obtain ⟨C0, hh, hR, rfl⟩ := ent B hml hst hv
  rw [lg_entry_eq]
  have hl := lv_entry ([.ref (ad 0 0), .int x1, .int x2, .int x3, .ref (ad 12 0)]) (n := 6) (Nat.le_of_ble_eq_true rfl)
  generalize (lg_sl ([.ref (ad 0 0), .int x1, .int x2, .int x3, .ref (ad 12 0)]) ++ List.replicate (6 - (lg_sl ([.ref (ad 0 0), .int x1, .int x2, .int x3, .ref (ad 12 0)])).length) Slot.unset).toArray = ls at hl ⊢
  have hl : lv_has ls 6 [(0, .ref (ad 0 0)), (1, .int x1), (2, .int x2), (3, .int x3), (4, .ref (ad 12 0))] := hl
  refine (show Sm (QH below _ s D cy n0 ad 4 24) (f_L_cut σ x1 x2 x3) p l e rmL_cut s m _ below meth c s.heap [] 0 0 (F0 m 0 ls []) from ?_) r0 h0
  unfold f_L_cut
  refine s_aload C0 dL_cut_0 (lv_at hl 4 rfl) ?_
  refine s_iconst (v := 0) C0 dL_cut_2 (by decide) ?_
  refine s_aload_n C0 dL_cut_3 rfl (lv_at hl 0 rfl) ?_
  refine s_iload_n C0 dL_cut_4 rfl (lv_at hl 1 rfl) ?_
  refine s_iload_n C0 dL_cut_5 rfl (lv_at hl 2 rfl) ?_
  refine s_iload_n C0 dL_cut_6 rfl (lv_at hl 3 rfl) ?_
  obtain ⟨q, hq, -⟩ := wd_get (ad := ad) (cy := cy) (σ := σ) (nT := nT) (nO := nO) (rl_b (r := (0, 0)) (by decide))
  refine run_x (vv := vI) (As := .ref (ad 0 0) :: [.int x1, .int x2, .int x3]) (rest := [.int 0, .ref (ad 12 0)]) hh (fun r ho => vx_runV (As := [.int x1, .int x2, .int x3]) (rest := [.int 0, .ref (ad 12 0)]) C0.1 (c_X3_cut C0.2.2.2.2.2.2 σ x1 x2 x3 r ho) (qc71 C0.1.2.2.2.2 ⟨Nat.le_of_ble_eq_true rfl, Nat.le_of_ble_eq_true rfl⟩) ⟨Pw_blind, va_recv C0.2.2.1 hh.1 (q := (RX3, TX3, 6)) (ci := 3) rfl hq, fun U hU hW => ⟨rfl, hh.pw C0 U hU hW⟩⟩ rfl rfl hl.1 rfl (lv_room (Nat.le_of_ble_eq_true rfl)) dL_cut_7 ⟨Nat.le_of_ble_eq_true rfl, Nat.le_of_ble_eq_true rfl⟩) (fun r x H locs cel q9 hx hh hce hcv hcl => ?_) (fun r1 H locs _ hh => ?_)
  · by_cases e0 : r.1 = 1
    · rw [if_pos e0] at hx; cases hx; rw [e0] at hcl
      refine h_catch C0 [] ⟨0, 12, 15, 21⟩ [⟨0, 12, 19, 13⟩, ⟨0, 12, 23, 23⟩] (by rw [htab]; rfl) (fun _ h => nomatch h) (by decide) (by decide) w400 w402 hce hcv hcl ?_
      refine lv_astore (lv' := [(5, .ref q9), (0, .ref (ad 0 0)), (1, .int x1), (2, .int x2), (3, .int x3), (4, .ref (ad 12 0))]) C0.1.1 C0.1.2.1 dL_cut_15 hl (by decide) rfl (fun ls hl => ?_)
      refine lv_iconst (v := 1) C0.1.1 C0.1.2.1 dL_cut_17 (by decide) ?_
      exact h_ret C0 AdX.rf hh hR (Nat.le_of_ble_eq_true rfl) (Nat.le_of_ble_eq_true rfl) dL_cut_18
    rw [if_neg e0] at hx
    by_cases e1 : r.1 = 2
    · rw [if_pos e1] at hx; cases hx; rw [e1] at hcl
      refine h_catch C0 [⟨0, 12, 15, 21⟩] ⟨0, 12, 19, 13⟩ [⟨0, 12, 23, 23⟩] (by rw [htab]; rfl) (fun z hz => by
        rcases List.mem_cons.mp hz with rfl | hz
        · exact ⟨1, by decide, w400, by decide⟩
        exact absurd hz List.not_mem_nil) (by decide) (by decide) w392 w394 hce hcv hcl ?_
      refine lv_astore (lv' := [(5, .ref q9), (0, .ref (ad 0 0)), (1, .int x1), (2, .int x2), (3, .int x3), (4, .ref (ad 12 0))]) C0.1.1 C0.1.2.1 dL_cut_19 hl (by decide) rfl (fun ls hl => ?_)
      refine lv_iconst (v := 2) C0.1.1 C0.1.2.1 dL_cut_21 (by decide) ?_
      exact h_ret C0 AdX.rf hh hR (Nat.le_of_ble_eq_true rfl) (Nat.le_of_ble_eq_true rfl) dL_cut_22
    rw [if_neg e1] at hx
    by_cases e2 : r.1 = 4
    · rw [if_pos e2] at hx; cases hx; rw [e2] at hcl
      refine h_catch C0 [⟨0, 12, 15, 21⟩, ⟨0, 12, 19, 13⟩] ⟨0, 12, 23, 23⟩ [] (by rw [htab]; rfl) (fun z hz => by
        rcases List.mem_cons.mp hz with rfl | hz
        · exact ⟨1, by decide, w400, by decide⟩
        rcases List.mem_cons.mp hz with rfl | hz
        · exact ⟨2, by decide, w392, by decide⟩
        exact absurd hz List.not_mem_nil) (by decide) (by decide) w401 w403 hce hcv hcl ?_
      refine lv_astore (lv' := [(5, .ref q9), (0, .ref (ad 0 0)), (1, .int x1), (2, .int x2), (3, .int x3), (4, .ref (ad 12 0))]) C0.1.1 C0.1.2.1 dL_cut_23 hl (by decide) rfl (fun ls hl => ?_)
      refine lv_iconst (v := 3) C0.1.1 C0.1.2.1 dL_cut_25 (by decide) ?_
      exact h_ret C0 AdX.rf hh hR (Nat.le_of_ble_eq_true rfl) (Nat.le_of_ble_eq_true rfl) dL_cut_26
    rw [if_neg e2] at hx
    cases hx
  · have hl : lv_has ls 6 [(0, .ref (ad 0 0)), (1, .int x1), (2, .int x2), (3, .int x3), (4, .ref (ad 12 0))] := by exact hl
    refine s_i2l C0 dL_cut_10 rfl ?_
    refine s_last C0 hh dL_cut_11 (fun H locs hh => ?_)
    refine s_goto (tgt := 27) C0 dL_cut_12 (by decide) ?_
    refine s_iconst (v := 0) C0 dL_cut_27 (by decide) ?_
    intro r h; cases h; exact h_ret C0 AdX.rf hh hR (Nat.le_of_ble_eq_true rfl) (Nat.le_of_ble_eq_true rfl) dL_cut_28
theorem qc72 {R : Room} {s : State} {args : Array Value} (ht : ∀ w ∈ allw, w.before args s = true) (hR : (rmX3_upcut).frames + 1 ≤ R.frames ∧ 8 + (3 + 11) + (rmX3_upcut).locals ≤ R.locals) : CallW R s args RL RX3 25 yX3_upcut cX3_upcut 3 (some .int) (wm yX3_upcut cX3_upcut 3 (some .int)) rmX3_upcut 2 12 1 := cwV 1 ht (gd_of (fun _ h => h) _ (mV w404 w406 w407 w64 w405)) rfl rfl rfl (by decide +kernel) hR
def rmL_upcut : Room := { frames := 8, cells := 2, slots := 12, locals := 133 }
def f_L_upcut (σ : Sg) (x1 : Int32) : Option (Int32 × Sg) :=
  bx (f_X3_upcut σ x1) (fun r1 => (some (0, svo r1.2 (r1.1 : Int32).toInt64))) (fun x => (if x.1 = 1 then some (1, x.2) else (if x.1 = 4 then some (2, x.2) else none)))
set_option maxRecDepth 100000 in
set_option maxHeartbeats 8000000 in
theorem c_L_upcut (hst : l.stackTraces = false) (σ : Sg) (x1 : Int32) : CtH l yL_upcut (wh yL_upcut cL_upcut 4 (some .int) [(0, 9, 12, 21), (0, 9, 15, 23)]) rmL_upcut 2 12 [.ref (ad 0 0), .int x1, .ref (ad 12 0)] D cy n0 ad nT nO σ (f_L_upcut σ x1) := by
  intro r0 h0
  refine vx_ofWH (cc := cL_upcut) (maxL := 4) (ret := (some .int)) (hh := [(0, 9, 12, 21), (0, 9, 15, 23)]) (by decide +kernel) rfl ?_
  intro p e s m args below meth c s₁ B hml hv
  have htab : c.exceptionTable.toList = tableOf [(0, 9, 12, 21), (0, 9, 15, 23)] := vx_table (x := yL_upcut) (y := yL_upcut) B (atoms_spec (ws := (wh yL_upcut cL_upcut 4 (some .int) [(0, 9, 12, 21), (0, 9, 15, 23)])) B.pre _ List.mem_cons_self)
  obtain ⟨C0, hh, hR, rfl⟩ := ent B hml hst hv
  rw [lg_entry_eq]
  have hl := lv_entry ([.ref (ad 0 0), .int x1, .ref (ad 12 0)]) (n := 4) (Nat.le_of_ble_eq_true rfl)
  generalize (lg_sl ([.ref (ad 0 0), .int x1, .ref (ad 12 0)]) ++ List.replicate (4 - (lg_sl ([.ref (ad 0 0), .int x1, .ref (ad 12 0)])).length) Slot.unset).toArray = ls at hl ⊢
  have hl : lv_has ls 4 [(0, .ref (ad 0 0)), (1, .int x1), (2, .ref (ad 12 0))] := hl
  refine (show Sm (QH below _ s D cy n0 ad 2 12) (f_L_upcut σ x1) p l e rmL_upcut s m _ below meth c s.heap [] 0 0 (F0 m 0 ls []) from ?_) r0 h0
  unfold f_L_upcut
  refine s_aload_n C0 dL_upcut_0 rfl (lv_at hl 2 rfl) ?_
  refine s_iconst (v := 0) C0 dL_upcut_1 (by decide) ?_
  refine s_aload_n C0 dL_upcut_2 rfl (lv_at hl 0 rfl) ?_
  refine s_iload_n C0 dL_upcut_3 rfl (lv_at hl 1 rfl) ?_
  obtain ⟨q, hq, -⟩ := wd_get (ad := ad) (cy := cy) (σ := σ) (nT := nT) (nO := nO) (rl_b (r := (0, 0)) (by decide))
  refine run_x (vv := vI) (As := .ref (ad 0 0) :: [.int x1]) (rest := [.int 0, .ref (ad 12 0)]) hh (fun r ho => vx_runV (As := [.int x1]) (rest := [.int 0, .ref (ad 12 0)]) C0.1 (c_X3_upcut C0.2.2.2.2.2.2 σ x1 r ho) (qc72 C0.1.2.2.2.2 ⟨Nat.le_of_ble_eq_true rfl, Nat.le_of_ble_eq_true rfl⟩) ⟨Pw_blind, va_recv C0.2.2.1 hh.1 (q := (RX3, TX3, 6)) (ci := 3) rfl hq, fun U hU hW => ⟨rfl, hh.pw C0 U hU hW⟩⟩ rfl rfl hl.1 rfl (lv_room (Nat.le_of_ble_eq_true rfl)) dL_upcut_4 ⟨Nat.le_of_ble_eq_true rfl, Nat.le_of_ble_eq_true rfl⟩) (fun r x H locs cel q9 hx hh hce hcv hcl => ?_) (fun r1 H locs _ hh => ?_)
  · by_cases e0 : r.1 = 1
    · rw [if_pos e0] at hx; cases hx; rw [e0] at hcl
      refine h_catch C0 [] ⟨0, 9, 12, 21⟩ [⟨0, 9, 15, 23⟩] (by rw [htab]; rfl) (fun _ h => nomatch h) (by decide) (by decide) w400 w402 hce hcv hcl ?_
      refine lv_astore_n (lv' := [(3, .ref q9), (0, .ref (ad 0 0)), (1, .int x1), (2, .ref (ad 12 0))]) C0.1.1 C0.1.2.1 dL_upcut_12 rfl hl (by decide) rfl (fun ls hl => ?_)
      refine lv_iconst (v := 1) C0.1.1 C0.1.2.1 dL_upcut_13 (by decide) ?_
      exact h_ret C0 AdX.rf hh hR (Nat.le_of_ble_eq_true rfl) (Nat.le_of_ble_eq_true rfl) dL_upcut_14
    rw [if_neg e0] at hx
    by_cases e1 : r.1 = 4
    · rw [if_pos e1] at hx; cases hx; rw [e1] at hcl
      refine h_catch C0 [⟨0, 9, 12, 21⟩] ⟨0, 9, 15, 23⟩ [] (by rw [htab]; rfl) (fun z hz => by
        rcases List.mem_cons.mp hz with rfl | hz
        · exact ⟨1, by decide, w400, by decide⟩
        exact absurd hz List.not_mem_nil) (by decide) (by decide) w401 w403 hce hcv hcl ?_
      refine lv_astore_n (lv' := [(3, .ref q9), (0, .ref (ad 0 0)), (1, .int x1), (2, .ref (ad 12 0))]) C0.1.1 C0.1.2.1 dL_upcut_15 rfl hl (by decide) rfl (fun ls hl => ?_)
      refine lv_iconst (v := 2) C0.1.1 C0.1.2.1 dL_upcut_16 (by decide) ?_
      exact h_ret C0 AdX.rf hh hR (Nat.le_of_ble_eq_true rfl) (Nat.le_of_ble_eq_true rfl) dL_upcut_17
    rw [if_neg e1] at hx
    cases hx
  · have hl : lv_has ls 4 [(0, .ref (ad 0 0)), (1, .int x1), (2, .ref (ad 12 0))] := by exact hl
    refine s_i2l C0 dL_upcut_7 rfl ?_
    refine s_last C0 hh dL_upcut_8 (fun H locs hh => ?_)
    refine s_goto (tgt := 18) C0 dL_upcut_9 (by decide) ?_
    refine s_iconst (v := 0) C0 dL_upcut_18 (by decide) ?_
    intro r h; cases h; exact h_ret C0 AdX.rf hh hR (Nat.le_of_ble_eq_true rfl) (Nat.le_of_ble_eq_true rfl) dL_upcut_19
theorem qc73 {R : Room} {s : State} {args : Array Value} (ht : ∀ w ∈ allw, w.before args s = true) (hR : (rmX3_teeth).frames + 1 ≤ R.frames ∧ 8 + (2 + 11) + (rmX3_teeth).locals ≤ R.locals) : CallW R s args RL RX3 29 yX3_teeth cX3_teeth 2 (some .int) (wm yX3_teeth cX3_teeth 2 (some .int)) rmX3_teeth 1 6 1 := cwV 1 ht (gd_of (fun _ h => h) _ (mV w408 w410 w411 w64 w409)) rfl rfl rfl (by decide +kernel) hR
def rmL_teeth : Room := { frames := 8, cells := 1, slots := 6, locals := 132 }
def f_L_teeth (σ : Sg) (x1 : Int32) : Option (Int32 × Sg) :=
  bx (f_X3_teeth σ x1) (fun r1 => (some (0, svo r1.2 (r1.1 : Int32).toInt64))) (fun x => (if x.1 = 1 then some (1, x.2) else none))
set_option maxRecDepth 100000 in
set_option maxHeartbeats 8000000 in
theorem c_L_teeth (hst : l.stackTraces = false) (σ : Sg) (x1 : Int32) : CtH l yL_teeth (wh yL_teeth cL_teeth 4 (some .int) [(0, 9, 12, 21)]) rmL_teeth 1 6 [.ref (ad 0 0), .int x1, .ref (ad 12 0)] D cy n0 ad nT nO σ (f_L_teeth σ x1) := by
  intro r0 h0
  refine vx_ofWH (cc := cL_teeth) (maxL := 4) (ret := (some .int)) (hh := [(0, 9, 12, 21)]) (by decide +kernel) rfl ?_
  intro p e s m args below meth c s₁ B hml hv
  have htab : c.exceptionTable.toList = tableOf [(0, 9, 12, 21)] := vx_table (x := yL_teeth) (y := yL_teeth) B (atoms_spec (ws := (wh yL_teeth cL_teeth 4 (some .int) [(0, 9, 12, 21)])) B.pre _ List.mem_cons_self)
  obtain ⟨C0, hh, hR, rfl⟩ := ent B hml hst hv
  rw [lg_entry_eq]
  have hl := lv_entry ([.ref (ad 0 0), .int x1, .ref (ad 12 0)]) (n := 4) (Nat.le_of_ble_eq_true rfl)
  generalize (lg_sl ([.ref (ad 0 0), .int x1, .ref (ad 12 0)]) ++ List.replicate (4 - (lg_sl ([.ref (ad 0 0), .int x1, .ref (ad 12 0)])).length) Slot.unset).toArray = ls at hl ⊢
  have hl : lv_has ls 4 [(0, .ref (ad 0 0)), (1, .int x1), (2, .ref (ad 12 0))] := hl
  refine (show Sm (QH below _ s D cy n0 ad 1 6) (f_L_teeth σ x1) p l e rmL_teeth s m _ below meth c s.heap [] 0 0 (F0 m 0 ls []) from ?_) r0 h0
  unfold f_L_teeth
  refine s_aload_n C0 dL_teeth_0 rfl (lv_at hl 2 rfl) ?_
  refine s_iconst (v := 0) C0 dL_teeth_1 (by decide) ?_
  refine s_aload_n C0 dL_teeth_2 rfl (lv_at hl 0 rfl) ?_
  refine s_iload_n C0 dL_teeth_3 rfl (lv_at hl 1 rfl) ?_
  obtain ⟨q, hq, -⟩ := wd_get (ad := ad) (cy := cy) (σ := σ) (nT := nT) (nO := nO) (rl_b (r := (0, 0)) (by decide))
  refine run_x (vv := vI) (As := .ref (ad 0 0) :: [.int x1]) (rest := [.int 0, .ref (ad 12 0)]) hh (fun r ho => vx_runV (As := [.int x1]) (rest := [.int 0, .ref (ad 12 0)]) C0.1 (c_X3_teeth C0.2.2.2.2.2.2 σ x1 r ho) (qc73 C0.1.2.2.2.2 ⟨Nat.le_of_ble_eq_true rfl, Nat.le_of_ble_eq_true rfl⟩) ⟨Pw_blind, va_recv C0.2.2.1 hh.1 (q := (RX3, TX3, 6)) (ci := 3) rfl hq, fun U hU hW => ⟨rfl, hh.pw C0 U hU hW⟩⟩ rfl rfl hl.1 rfl (lv_room (Nat.le_of_ble_eq_true rfl)) dL_teeth_4 ⟨Nat.le_of_ble_eq_true rfl, Nat.le_of_ble_eq_true rfl⟩) (fun r x H locs cel q9 hx hh hce hcv hcl => ?_) (fun r1 H locs _ hh => ?_)
  · by_cases e0 : r.1 = 1
    · rw [if_pos e0] at hx; cases hx; rw [e0] at hcl
      refine h_catch C0 [] ⟨0, 9, 12, 21⟩ [] (by rw [htab]; rfl) (fun _ h => nomatch h) (by decide) (by decide) w400 w402 hce hcv hcl ?_
      refine lv_astore_n (lv' := [(3, .ref q9), (0, .ref (ad 0 0)), (1, .int x1), (2, .ref (ad 12 0))]) C0.1.1 C0.1.2.1 dL_teeth_12 rfl hl (by decide) rfl (fun ls hl => ?_)
      refine lv_iconst (v := 1) C0.1.1 C0.1.2.1 dL_teeth_13 (by decide) ?_
      exact h_ret C0 AdX.rf hh hR (Nat.le_of_ble_eq_true rfl) (Nat.le_of_ble_eq_true rfl) dL_teeth_14
    rw [if_neg e0] at hx
    cases hx
  · have hl : lv_has ls 4 [(0, .ref (ad 0 0)), (1, .int x1), (2, .ref (ad 12 0))] := by exact hl
    refine s_i2l C0 dL_teeth_7 rfl ?_
    refine s_last C0 hh dL_teeth_8 (fun H locs hh => ?_)
    refine s_goto (tgt := 15) C0 dL_teeth_9 (by decide) ?_
    refine s_iconst (v := 0) C0 dL_teeth_15 (by decide) ?_
    intro r h; cases h; exact h_ret C0 AdX.rf hh hR (Nat.le_of_ble_eq_true rfl) (Nat.le_of_ble_eq_true rfl) dL_teeth_16
theorem qc74 {R : Room} {s : State} {args : Array Value} (ht : ∀ w ∈ allw, w.before args s = true) (hR : (rmX3_place).frames + 1 ≤ R.frames ∧ 8 + (4 + 11) + (rmX3_place).locals ≤ R.locals) : CallW R s args RL RX3 32 yX3_place cX3_place 4 (some .int) (wm yX3_place cX3_place 4 (some .int)) rmX3_place 2 12 2 := cwV 2 ht (gd_of (fun _ h => h) _ (mV w412 w414 w415 w64 w413)) rfl rfl rfl (by decide +kernel) hR
def rmL_place : Room := { frames := 8, cells := 2, slots := 12, locals := 134 }
def f_L_place (σ : Sg) (x1 : Int32) (x2 : Int32) : Option (Int32 × Sg) :=
  bx (f_X3_place σ x1 x2) (fun r1 => (some (0, svo r1.2 (r1.1 : Int32).toInt64))) (fun x => (if x.1 = 1 then some (1, x.2) else (if x.1 = 5 then some (2, x.2) else none)))
set_option maxRecDepth 100000 in
set_option maxHeartbeats 8000000 in
theorem c_L_place (hst : l.stackTraces = false) (σ : Sg) (x1 : Int32) (x2 : Int32) : CtH l yL_place (wh yL_place cL_place 5 (some .int) [(0, 10, 13, 21), (0, 10, 17, 36)]) rmL_place 2 12 [.ref (ad 0 0), .int x1, .int x2, .ref (ad 12 0)] D cy n0 ad nT nO σ (f_L_place σ x1 x2) := by
  intro r0 h0
  refine vx_ofWH (cc := cL_place) (maxL := 5) (ret := (some .int)) (hh := [(0, 10, 13, 21), (0, 10, 17, 36)]) (by decide +kernel) rfl ?_
  intro p e s m args below meth c s₁ B hml hv
  have htab : c.exceptionTable.toList = tableOf [(0, 10, 13, 21), (0, 10, 17, 36)] := vx_table (x := yL_place) (y := yL_place) B (atoms_spec (ws := (wh yL_place cL_place 5 (some .int) [(0, 10, 13, 21), (0, 10, 17, 36)])) B.pre _ List.mem_cons_self)
  obtain ⟨C0, hh, hR, rfl⟩ := ent B hml hst hv
  rw [lg_entry_eq]
  have hl := lv_entry ([.ref (ad 0 0), .int x1, .int x2, .ref (ad 12 0)]) (n := 5) (Nat.le_of_ble_eq_true rfl)
  generalize (lg_sl ([.ref (ad 0 0), .int x1, .int x2, .ref (ad 12 0)]) ++ List.replicate (5 - (lg_sl ([.ref (ad 0 0), .int x1, .int x2, .ref (ad 12 0)])).length) Slot.unset).toArray = ls at hl ⊢
  have hl : lv_has ls 5 [(0, .ref (ad 0 0)), (1, .int x1), (2, .int x2), (3, .ref (ad 12 0))] := hl
  refine (show Sm (QH below _ s D cy n0 ad 2 12) (f_L_place σ x1 x2) p l e rmL_place s m _ below meth c s.heap [] 0 0 (F0 m 0 ls []) from ?_) r0 h0
  unfold f_L_place
  refine s_aload_n C0 dL_place_0 rfl (lv_at hl 3 rfl) ?_
  refine s_iconst (v := 0) C0 dL_place_1 (by decide) ?_
  refine s_aload_n C0 dL_place_2 rfl (lv_at hl 0 rfl) ?_
  refine s_iload_n C0 dL_place_3 rfl (lv_at hl 1 rfl) ?_
  refine s_iload_n C0 dL_place_4 rfl (lv_at hl 2 rfl) ?_
  obtain ⟨q, hq, -⟩ := wd_get (ad := ad) (cy := cy) (σ := σ) (nT := nT) (nO := nO) (rl_b (r := (0, 0)) (by decide))
  refine run_x (vv := vI) (As := .ref (ad 0 0) :: [.int x1, .int x2]) (rest := [.int 0, .ref (ad 12 0)]) hh (fun r ho => vx_runV (As := [.int x1, .int x2]) (rest := [.int 0, .ref (ad 12 0)]) C0.1 (c_X3_place C0.2.2.2.2.2.2 σ x1 x2 r ho) (qc74 C0.1.2.2.2.2 ⟨Nat.le_of_ble_eq_true rfl, Nat.le_of_ble_eq_true rfl⟩) ⟨Pw_blind, va_recv C0.2.2.1 hh.1 (q := (RX3, TX3, 6)) (ci := 3) rfl hq, fun U hU hW => ⟨rfl, hh.pw C0 U hU hW⟩⟩ rfl rfl hl.1 rfl (lv_room (Nat.le_of_ble_eq_true rfl)) dL_place_5 ⟨Nat.le_of_ble_eq_true rfl, Nat.le_of_ble_eq_true rfl⟩) (fun r x H locs cel q9 hx hh hce hcv hcl => ?_) (fun r1 H locs _ hh => ?_)
  · by_cases e0 : r.1 = 1
    · rw [if_pos e0] at hx; cases hx; rw [e0] at hcl
      refine h_catch C0 [] ⟨0, 10, 13, 21⟩ [⟨0, 10, 17, 36⟩] (by rw [htab]; rfl) (fun _ h => nomatch h) (by decide) (by decide) w400 w402 hce hcv hcl ?_
      refine lv_astore (lv' := [(4, .ref q9), (0, .ref (ad 0 0)), (1, .int x1), (2, .int x2), (3, .ref (ad 12 0))]) C0.1.1 C0.1.2.1 dL_place_13 hl (by decide) rfl (fun ls hl => ?_)
      refine lv_iconst (v := 1) C0.1.1 C0.1.2.1 dL_place_15 (by decide) ?_
      exact h_ret C0 AdX.rf hh hR (Nat.le_of_ble_eq_true rfl) (Nat.le_of_ble_eq_true rfl) dL_place_16
    rw [if_neg e0] at hx
    by_cases e1 : r.1 = 5
    · rw [if_pos e1] at hx; cases hx; rw [e1] at hcl
      refine h_catch C0 [⟨0, 10, 13, 21⟩] ⟨0, 10, 17, 36⟩ [] (by rw [htab]; rfl) (fun z hz => by
        rcases List.mem_cons.mp hz with rfl | hz
        · exact ⟨1, by decide, w400, by decide⟩
        exact absurd hz List.not_mem_nil) (by decide) (by decide) w416 w417 hce hcv hcl ?_
      refine lv_astore (lv' := [(4, .ref q9), (0, .ref (ad 0 0)), (1, .int x1), (2, .int x2), (3, .ref (ad 12 0))]) C0.1.1 C0.1.2.1 dL_place_17 hl (by decide) rfl (fun ls hl => ?_)
      refine lv_iconst (v := 2) C0.1.1 C0.1.2.1 dL_place_19 (by decide) ?_
      exact h_ret C0 AdX.rf hh hR (Nat.le_of_ble_eq_true rfl) (Nat.le_of_ble_eq_true rfl) dL_place_20
    rw [if_neg e1] at hx
    cases hx
  · have hl : lv_has ls 5 [(0, .ref (ad 0 0)), (1, .int x1), (2, .int x2), (3, .ref (ad 12 0))] := by exact hl
    refine s_i2l C0 dL_place_8 rfl ?_
    refine s_last C0 hh dL_place_9 (fun H locs hh => ?_)
    refine s_goto (tgt := 21) C0 dL_place_10 (by decide) ?_
    refine s_iconst (v := 0) C0 dL_place_21 (by decide) ?_
    intro r h; cases h; exact h_ret C0 AdX.rf hh hR (Nat.le_of_ble_eq_true rfl) (Nat.le_of_ble_eq_true rfl) dL_place_22
theorem qc75 {R : Room} {s : State} {args : Array Value} (ht : ∀ w ∈ allw, w.before args s = true) (hR : (rmX3_height).frames + 1 ≤ R.frames ∧ 8 + (4 + 11) + (rmX3_height).locals ≤ R.locals) : CallW R s args RL RX3 38 yX3_height cX3_height 4 (some .int) (wm yX3_height cX3_height 4 (some .int)) rmX3_height 2 12 2 := cwV 2 ht (gd_of (fun _ h => h) _ (mV w418 w420 w421 w64 w419)) rfl rfl rfl (by decide +kernel) hR
def rmL_height : Room := { frames := 8, cells := 2, slots := 12, locals := 134 }
def f_L_height (σ : Sg) (x1 : Int32) (x2 : Int32) : Option (Int32 × Sg) :=
  bx (f_X3_height σ x1 x2) (fun r1 => (some (0, svo r1.2 (r1.1 : Int32).toInt64))) (fun x => (if x.1 = 1 then some (1, x.2) else (if x.1 = 5 then some (2, x.2) else none)))
set_option maxRecDepth 100000 in
set_option maxHeartbeats 8000000 in
theorem c_L_height (hst : l.stackTraces = false) (σ : Sg) (x1 : Int32) (x2 : Int32) : CtH l yL_height (wh yL_height cL_height 5 (some .int) [(0, 10, 13, 21), (0, 10, 17, 36)]) rmL_height 2 12 [.ref (ad 0 0), .int x1, .int x2, .ref (ad 12 0)] D cy n0 ad nT nO σ (f_L_height σ x1 x2) := by
  intro r0 h0
  refine vx_ofWH (cc := cL_height) (maxL := 5) (ret := (some .int)) (hh := [(0, 10, 13, 21), (0, 10, 17, 36)]) (by decide +kernel) rfl ?_
  intro p e s m args below meth c s₁ B hml hv
  have htab : c.exceptionTable.toList = tableOf [(0, 10, 13, 21), (0, 10, 17, 36)] := vx_table (x := yL_height) (y := yL_height) B (atoms_spec (ws := (wh yL_height cL_height 5 (some .int) [(0, 10, 13, 21), (0, 10, 17, 36)])) B.pre _ List.mem_cons_self)
  obtain ⟨C0, hh, hR, rfl⟩ := ent B hml hst hv
  rw [lg_entry_eq]
  have hl := lv_entry ([.ref (ad 0 0), .int x1, .int x2, .ref (ad 12 0)]) (n := 5) (Nat.le_of_ble_eq_true rfl)
  generalize (lg_sl ([.ref (ad 0 0), .int x1, .int x2, .ref (ad 12 0)]) ++ List.replicate (5 - (lg_sl ([.ref (ad 0 0), .int x1, .int x2, .ref (ad 12 0)])).length) Slot.unset).toArray = ls at hl ⊢
  have hl : lv_has ls 5 [(0, .ref (ad 0 0)), (1, .int x1), (2, .int x2), (3, .ref (ad 12 0))] := hl
  refine (show Sm (QH below _ s D cy n0 ad 2 12) (f_L_height σ x1 x2) p l e rmL_height s m _ below meth c s.heap [] 0 0 (F0 m 0 ls []) from ?_) r0 h0
  unfold f_L_height
  refine s_aload_n C0 dL_height_0 rfl (lv_at hl 3 rfl) ?_
  refine s_iconst (v := 0) C0 dL_height_1 (by decide) ?_
  refine s_aload_n C0 dL_height_2 rfl (lv_at hl 0 rfl) ?_
  refine s_iload_n C0 dL_height_3 rfl (lv_at hl 1 rfl) ?_
  refine s_iload_n C0 dL_height_4 rfl (lv_at hl 2 rfl) ?_
  obtain ⟨q, hq, -⟩ := wd_get (ad := ad) (cy := cy) (σ := σ) (nT := nT) (nO := nO) (rl_b (r := (0, 0)) (by decide))
  refine run_x (vv := vI) (As := .ref (ad 0 0) :: [.int x1, .int x2]) (rest := [.int 0, .ref (ad 12 0)]) hh (fun r ho => vx_runV (As := [.int x1, .int x2]) (rest := [.int 0, .ref (ad 12 0)]) C0.1 (c_X3_height C0.2.2.2.2.2.2 σ x1 x2 r ho) (qc75 C0.1.2.2.2.2 ⟨Nat.le_of_ble_eq_true rfl, Nat.le_of_ble_eq_true rfl⟩) ⟨Pw_blind, va_recv C0.2.2.1 hh.1 (q := (RX3, TX3, 6)) (ci := 3) rfl hq, fun U hU hW => ⟨rfl, hh.pw C0 U hU hW⟩⟩ rfl rfl hl.1 rfl (lv_room (Nat.le_of_ble_eq_true rfl)) dL_height_5 ⟨Nat.le_of_ble_eq_true rfl, Nat.le_of_ble_eq_true rfl⟩) (fun r x H locs cel q9 hx hh hce hcv hcl => ?_) (fun r1 H locs _ hh => ?_)
  · by_cases e0 : r.1 = 1
    · rw [if_pos e0] at hx; cases hx; rw [e0] at hcl
      refine h_catch C0 [] ⟨0, 10, 13, 21⟩ [⟨0, 10, 17, 36⟩] (by rw [htab]; rfl) (fun _ h => nomatch h) (by decide) (by decide) w400 w402 hce hcv hcl ?_
      refine lv_astore (lv' := [(4, .ref q9), (0, .ref (ad 0 0)), (1, .int x1), (2, .int x2), (3, .ref (ad 12 0))]) C0.1.1 C0.1.2.1 dL_height_13 hl (by decide) rfl (fun ls hl => ?_)
      refine lv_iconst (v := 1) C0.1.1 C0.1.2.1 dL_height_15 (by decide) ?_
      exact h_ret C0 AdX.rf hh hR (Nat.le_of_ble_eq_true rfl) (Nat.le_of_ble_eq_true rfl) dL_height_16
    rw [if_neg e0] at hx
    by_cases e1 : r.1 = 5
    · rw [if_pos e1] at hx; cases hx; rw [e1] at hcl
      refine h_catch C0 [⟨0, 10, 13, 21⟩] ⟨0, 10, 17, 36⟩ [] (by rw [htab]; rfl) (fun z hz => by
        rcases List.mem_cons.mp hz with rfl | hz
        · exact ⟨1, by decide, w400, by decide⟩
        exact absurd hz List.not_mem_nil) (by decide) (by decide) w416 w417 hce hcv hcl ?_
      refine lv_astore (lv' := [(4, .ref q9), (0, .ref (ad 0 0)), (1, .int x1), (2, .int x2), (3, .ref (ad 12 0))]) C0.1.1 C0.1.2.1 dL_height_17 hl (by decide) rfl (fun ls hl => ?_)
      refine lv_iconst (v := 2) C0.1.1 C0.1.2.1 dL_height_19 (by decide) ?_
      exact h_ret C0 AdX.rf hh hR (Nat.le_of_ble_eq_true rfl) (Nat.le_of_ble_eq_true rfl) dL_height_20
    rw [if_neg e1] at hx
    cases hx
  · have hl : lv_has ls 5 [(0, .ref (ad 0 0)), (1, .int x1), (2, .int x2), (3, .ref (ad 12 0))] := by exact hl
    refine s_i2l C0 dL_height_8 rfl ?_
    refine s_last C0 hh dL_height_9 (fun H locs hh => ?_)
    refine s_goto (tgt := 21) C0 dL_height_10 (by decide) ?_
    refine s_iconst (v := 0) C0 dL_height_21 (by decide) ?_
    intro r h; cases h; exact h_ret C0 AdX.rf hh hR (Nat.le_of_ble_eq_true rfl) (Nat.le_of_ble_eq_true rfl) dL_height_22
theorem qc76 {R : Room} {s : State} {args : Array Value} (ht : ∀ w ∈ allw, w.before args s = true) (hR : (rmX3_wear).frames + 1 ≤ R.frames ∧ 8 + (4 + 11) + (rmX3_wear).locals ≤ R.locals) : CallW R s args RL RX3 41 yX3_wear cX3_wear 4 (some .int) (wm yX3_wear cX3_wear 4 (some .int)) rmX3_wear 2 12 2 := cwV 2 ht (gd_of (fun _ h => h) _ (mV w422 w424 w425 w64 w423)) rfl rfl rfl (by decide +kernel) hR
def rmL_wear : Room := { frames := 8, cells := 2, slots := 12, locals := 134 }
def f_L_wear (σ : Sg) (x1 : Int32) (x2 : Int32) : Option (Int32 × Sg) :=
  bx (f_X3_wear σ x1 x2) (fun r1 => (some (0, svo r1.2 (r1.1 : Int32).toInt64))) (fun x => (if x.1 = 1 then some (1, x.2) else (if x.1 = 5 then some (2, x.2) else none)))
set_option maxRecDepth 100000 in
set_option maxHeartbeats 8000000 in
theorem c_L_wear (hst : l.stackTraces = false) (σ : Sg) (x1 : Int32) (x2 : Int32) : CtH l yL_wear (wh yL_wear cL_wear 5 (some .int) [(0, 10, 13, 21), (0, 10, 17, 36)]) rmL_wear 2 12 [.ref (ad 0 0), .int x1, .int x2, .ref (ad 12 0)] D cy n0 ad nT nO σ (f_L_wear σ x1 x2) := by
  intro r0 h0
  refine vx_ofWH (cc := cL_wear) (maxL := 5) (ret := (some .int)) (hh := [(0, 10, 13, 21), (0, 10, 17, 36)]) (by decide +kernel) rfl ?_
  intro p e s m args below meth c s₁ B hml hv
  have htab : c.exceptionTable.toList = tableOf [(0, 10, 13, 21), (0, 10, 17, 36)] := vx_table (x := yL_wear) (y := yL_wear) B (atoms_spec (ws := (wh yL_wear cL_wear 5 (some .int) [(0, 10, 13, 21), (0, 10, 17, 36)])) B.pre _ List.mem_cons_self)
  obtain ⟨C0, hh, hR, rfl⟩ := ent B hml hst hv
  rw [lg_entry_eq]
  have hl := lv_entry ([.ref (ad 0 0), .int x1, .int x2, .ref (ad 12 0)]) (n := 5) (Nat.le_of_ble_eq_true rfl)
  generalize (lg_sl ([.ref (ad 0 0), .int x1, .int x2, .ref (ad 12 0)]) ++ List.replicate (5 - (lg_sl ([.ref (ad 0 0), .int x1, .int x2, .ref (ad 12 0)])).length) Slot.unset).toArray = ls at hl ⊢
  have hl : lv_has ls 5 [(0, .ref (ad 0 0)), (1, .int x1), (2, .int x2), (3, .ref (ad 12 0))] := hl
  refine (show Sm (QH below _ s D cy n0 ad 2 12) (f_L_wear σ x1 x2) p l e rmL_wear s m _ below meth c s.heap [] 0 0 (F0 m 0 ls []) from ?_) r0 h0
  unfold f_L_wear
  refine s_aload_n C0 dL_wear_0 rfl (lv_at hl 3 rfl) ?_
  refine s_iconst (v := 0) C0 dL_wear_1 (by decide) ?_
  refine s_aload_n C0 dL_wear_2 rfl (lv_at hl 0 rfl) ?_
  refine s_iload_n C0 dL_wear_3 rfl (lv_at hl 1 rfl) ?_
  refine s_iload_n C0 dL_wear_4 rfl (lv_at hl 2 rfl) ?_
  obtain ⟨q, hq, -⟩ := wd_get (ad := ad) (cy := cy) (σ := σ) (nT := nT) (nO := nO) (rl_b (r := (0, 0)) (by decide))
  refine run_x (vv := vI) (As := .ref (ad 0 0) :: [.int x1, .int x2]) (rest := [.int 0, .ref (ad 12 0)]) hh (fun r ho => vx_runV (As := [.int x1, .int x2]) (rest := [.int 0, .ref (ad 12 0)]) C0.1 (c_X3_wear C0.2.2.2.2.2.2 σ x1 x2 r ho) (qc76 C0.1.2.2.2.2 ⟨Nat.le_of_ble_eq_true rfl, Nat.le_of_ble_eq_true rfl⟩) ⟨Pw_blind, va_recv C0.2.2.1 hh.1 (q := (RX3, TX3, 6)) (ci := 3) rfl hq, fun U hU hW => ⟨rfl, hh.pw C0 U hU hW⟩⟩ rfl rfl hl.1 rfl (lv_room (Nat.le_of_ble_eq_true rfl)) dL_wear_5 ⟨Nat.le_of_ble_eq_true rfl, Nat.le_of_ble_eq_true rfl⟩) (fun r x H locs cel q9 hx hh hce hcv hcl => ?_) (fun r1 H locs _ hh => ?_)
  · by_cases e0 : r.1 = 1
    · rw [if_pos e0] at hx; cases hx; rw [e0] at hcl
      refine h_catch C0 [] ⟨0, 10, 13, 21⟩ [⟨0, 10, 17, 36⟩] (by rw [htab]; rfl) (fun _ h => nomatch h) (by decide) (by decide) w400 w402 hce hcv hcl ?_
      refine lv_astore (lv' := [(4, .ref q9), (0, .ref (ad 0 0)), (1, .int x1), (2, .int x2), (3, .ref (ad 12 0))]) C0.1.1 C0.1.2.1 dL_wear_13 hl (by decide) rfl (fun ls hl => ?_)
      refine lv_iconst (v := 1) C0.1.1 C0.1.2.1 dL_wear_15 (by decide) ?_
      exact h_ret C0 AdX.rf hh hR (Nat.le_of_ble_eq_true rfl) (Nat.le_of_ble_eq_true rfl) dL_wear_16
    rw [if_neg e0] at hx
    by_cases e1 : r.1 = 5
    · rw [if_pos e1] at hx; cases hx; rw [e1] at hcl
      refine h_catch C0 [⟨0, 10, 13, 21⟩] ⟨0, 10, 17, 36⟩ [] (by rw [htab]; rfl) (fun z hz => by
        rcases List.mem_cons.mp hz with rfl | hz
        · exact ⟨1, by decide, w400, by decide⟩
        exact absurd hz List.not_mem_nil) (by decide) (by decide) w416 w417 hce hcv hcl ?_
      refine lv_astore (lv' := [(4, .ref q9), (0, .ref (ad 0 0)), (1, .int x1), (2, .int x2), (3, .ref (ad 12 0))]) C0.1.1 C0.1.2.1 dL_wear_17 hl (by decide) rfl (fun ls hl => ?_)
      refine lv_iconst (v := 2) C0.1.1 C0.1.2.1 dL_wear_19 (by decide) ?_
      exact h_ret C0 AdX.rf hh hR (Nat.le_of_ble_eq_true rfl) (Nat.le_of_ble_eq_true rfl) dL_wear_20
    rw [if_neg e1] at hx
    cases hx
  · have hl : lv_has ls 5 [(0, .ref (ad 0 0)), (1, .int x1), (2, .int x2), (3, .ref (ad 12 0))] := by exact hl
    refine s_i2l C0 dL_wear_8 rfl ?_
    refine s_last C0 hh dL_wear_9 (fun H locs hh => ?_)
    refine s_goto (tgt := 21) C0 dL_wear_10 (by decide) ?_
    refine s_iconst (v := 0) C0 dL_wear_21 (by decide) ?_
    intro r h; cases h; exact h_ret C0 AdX.rf hh hR (Nat.le_of_ble_eq_true rfl) (Nat.le_of_ble_eq_true rfl) dL_wear_22
theorem qc77 {R : Room} {s : State} {args : Array Value} (ht : ∀ w ∈ allw, w.before args s = true) (hR : (rmX3_sings).frames + 1 ≤ R.frames ∧ 8 + (2 + 11) + (rmX3_sings).locals ≤ R.locals) : CallW R s args RL RX3 44 yX3_sings cX3_sings 2 (some .boolean) (wm yX3_sings cX3_sings 2 (some .boolean)) rmX3_sings 1 6 1 := cwV 1 ht (gd_of (fun _ h => h) _ (mV w426 w428 w429 w64 w427)) rfl rfl rfl (by decide +kernel) hR
def rmL_sings : Room := { frames := 8, cells := 1, slots := 6, locals := 132 }
def f_L_sings (σ : Sg) (x1 : Int32) : Option (Int32 × Sg) :=
  bx (f_X3_sings σ x1) (fun r1 => (if (r1.1 : Int32) = (0 : Int32) then (some (0, svo r1.2 0)) else (some (0, svo r1.2 1)))) (fun x => (if x.1 = 1 then some (1, x.2) else none))
set_option maxRecDepth 100000 in
set_option maxHeartbeats 8000000 in
theorem c_L_sings (hst : l.stackTraces = false) (σ : Sg) (x1 : Int32) : CtH l yL_sings (wh yL_sings cL_sings 4 (some .int) [(0, 16, 19, 21)]) rmL_sings 1 6 [.ref (ad 0 0), .int x1, .ref (ad 12 0)] D cy n0 ad nT nO σ (f_L_sings σ x1) := by
  intro r0 h0
  refine vx_ofWH (cc := cL_sings) (maxL := 4) (ret := (some .int)) (hh := [(0, 16, 19, 21)]) (by decide +kernel) rfl ?_
  intro p e s m args below meth c s₁ B hml hv
  have htab : c.exceptionTable.toList = tableOf [(0, 16, 19, 21)] := vx_table (x := yL_sings) (y := yL_sings) B (atoms_spec (ws := (wh yL_sings cL_sings 4 (some .int) [(0, 16, 19, 21)])) B.pre _ List.mem_cons_self)
  obtain ⟨C0, hh, hR, rfl⟩ := ent B hml hst hv
  rw [lg_entry_eq]
  have hl := lv_entry ([.ref (ad 0 0), .int x1, .ref (ad 12 0)]) (n := 4) (Nat.le_of_ble_eq_true rfl)
  generalize (lg_sl ([.ref (ad 0 0), .int x1, .ref (ad 12 0)]) ++ List.replicate (4 - (lg_sl ([.ref (ad 0 0), .int x1, .ref (ad 12 0)])).length) Slot.unset).toArray = ls at hl ⊢
  have hl : lv_has ls 4 [(0, .ref (ad 0 0)), (1, .int x1), (2, .ref (ad 12 0))] := hl
  refine (show Sm (QH below _ s D cy n0 ad 1 6) (f_L_sings σ x1) p l e rmL_sings s m _ below meth c s.heap [] 0 0 (F0 m 0 ls []) from ?_) r0 h0
  unfold f_L_sings
  refine s_aload_n C0 dL_sings_0 rfl (lv_at hl 2 rfl) ?_
  refine s_iconst (v := 0) C0 dL_sings_1 (by decide) ?_
  refine s_aload_n C0 dL_sings_2 rfl (lv_at hl 0 rfl) ?_
  refine s_iload_n C0 dL_sings_3 rfl (lv_at hl 1 rfl) ?_
  obtain ⟨q, hq, -⟩ := wd_get (ad := ad) (cy := cy) (σ := σ) (nT := nT) (nO := nO) (rl_b (r := (0, 0)) (by decide))
  refine run_x (vv := vI) (As := .ref (ad 0 0) :: [.int x1]) (rest := [.int 0, .ref (ad 12 0)]) hh (fun r ho => vx_runV (As := [.int x1]) (rest := [.int 0, .ref (ad 12 0)]) C0.1 (c_X3_sings C0.2.2.2.2.2.2 σ x1 r ho) (qc77 C0.1.2.2.2.2 ⟨Nat.le_of_ble_eq_true rfl, Nat.le_of_ble_eq_true rfl⟩) ⟨Pw_blind, va_recv C0.2.2.1 hh.1 (q := (RX3, TX3, 6)) (ci := 3) rfl hq, fun U hU hW => ⟨rfl, hh.pw C0 U hU hW⟩⟩ rfl rfl hl.1 rfl (lv_room (Nat.le_of_ble_eq_true rfl)) dL_sings_4 ⟨Nat.le_of_ble_eq_true rfl, Nat.le_of_ble_eq_true rfl⟩) (fun r x H locs cel q9 hx hh hce hcv hcl => ?_) (fun r1 H locs _ hh => ?_)
  · by_cases e0 : r.1 = 1
    · rw [if_pos e0] at hx; cases hx; rw [e0] at hcl
      refine h_catch C0 [] ⟨0, 16, 19, 21⟩ [] (by rw [htab]; rfl) (fun _ h => nomatch h) (by decide) (by decide) w400 w402 hce hcv hcl ?_
      refine lv_astore_n (lv' := [(3, .ref q9), (0, .ref (ad 0 0)), (1, .int x1), (2, .ref (ad 12 0))]) C0.1.1 C0.1.2.1 dL_sings_19 rfl hl (by decide) rfl (fun ls hl => ?_)
      refine lv_iconst (v := 1) C0.1.1 C0.1.2.1 dL_sings_20 (by decide) ?_
      exact h_ret C0 AdX.rf hh hR (Nat.le_of_ble_eq_true rfl) (Nat.le_of_ble_eq_true rfl) dL_sings_21
    rw [if_neg e0] at hx
    cases hx
  · have hl : lv_has ls 4 [(0, .ref (ad 0 0)), (1, .int x1), (2, .ref (ad 12 0))] := by exact hl
    refine s_if_eq (tgt := 14) C0 dL_sings_7 (by decide) (fun _ => ?_) (fun _ => ?_)
    · refine s_lconst (v := 0) C0 dL_sings_14 (by decide) ?_
      refine s_last C0 hh dL_sings_15 (fun H locs hh => ?_)
      refine s_goto (tgt := 22) C0 dL_sings_16 (by decide) ?_
      refine s_iconst (v := 0) C0 dL_sings_22 (by decide) ?_
      intro r h; cases h; exact h_ret C0 AdX.rf hh hR (Nat.le_of_ble_eq_true rfl) (Nat.le_of_ble_eq_true rfl) dL_sings_23
    · refine s_lconst (v := 1) C0 dL_sings_10 (by decide) ?_
      refine s_goto (tgt := 15) C0 dL_sings_11 (by decide) ?_
      refine s_last C0 hh dL_sings_15 (fun H locs hh => ?_)
      refine s_goto (tgt := 22) C0 dL_sings_16 (by decide) ?_
      refine s_iconst (v := 0) C0 dL_sings_22 (by decide) ?_
      intro r h; cases h; exact h_ret C0 AdX.rf hh hR (Nat.le_of_ble_eq_true rfl) (Nat.le_of_ble_eq_true rfl) dL_sings_23
theorem qc78 {R : Room} {s : State} {args : Array Value} (ht : ∀ w ∈ allw, w.before args s = true) (hR : (rmX3_set).frames + 1 ≤ R.frames ∧ 8 + (5 + 11) + (rmX3_set).locals ≤ R.locals) : CallW R s args RL RX3 48 yX3_set cX3_set 5 (some .int) (wm yX3_set cX3_set 5 (some .int)) rmX3_set 3 18 2 := cwV 2 ht (gd_of (fun _ h => h) _ (mV w430 w432 w433 w64 w431)) rfl rfl rfl (by decide +kernel) hR
def rmL_set : Room := { frames := 8, cells := 3, slots := 18, locals := 136 }
def f_L_set (σ : Sg) (x1 : Int32) (x2 : Int32) : Option (Int32 × Sg) :=
  bx (f_X3_set σ x1 x2) (fun r1 => (some (0, svo r1.2 (r1.1 : Int32).toInt64))) (fun x => (if x.1 = 1 then some (1, x.2) else (if x.1 = 2 then some (2, x.2) else (if x.1 = 4 then some (3, x.2) else none))))
set_option maxRecDepth 100000 in
set_option maxHeartbeats 8000000 in
theorem c_L_set (hst : l.stackTraces = false) (σ : Sg) (x1 : Int32) (x2 : Int32) : CtH l yL_set (wh yL_set cL_set 5 (some .int) [(0, 10, 13, 21), (0, 10, 17, 13), (0, 10, 21, 23)]) rmL_set 3 18 [.ref (ad 0 0), .int x1, .int x2, .ref (ad 12 0)] D cy n0 ad nT nO σ (f_L_set σ x1 x2) := by
  intro r0 h0
  refine vx_ofWH (cc := cL_set) (maxL := 5) (ret := (some .int)) (hh := [(0, 10, 13, 21), (0, 10, 17, 13), (0, 10, 21, 23)]) (by decide +kernel) rfl ?_
  intro p e s m args below meth c s₁ B hml hv
  have htab : c.exceptionTable.toList = tableOf [(0, 10, 13, 21), (0, 10, 17, 13), (0, 10, 21, 23)] := vx_table (x := yL_set) (y := yL_set) B (atoms_spec (ws := (wh yL_set cL_set 5 (some .int) [(0, 10, 13, 21), (0, 10, 17, 13), (0, 10, 21, 23)])) B.pre _ List.mem_cons_self)
  obtain ⟨C0, hh, hR, rfl⟩ := ent B hml hst hv
  rw [lg_entry_eq]
  have hl := lv_entry ([.ref (ad 0 0), .int x1, .int x2, .ref (ad 12 0)]) (n := 5) (Nat.le_of_ble_eq_true rfl)
  generalize (lg_sl ([.ref (ad 0 0), .int x1, .int x2, .ref (ad 12 0)]) ++ List.replicate (5 - (lg_sl ([.ref (ad 0 0), .int x1, .int x2, .ref (ad 12 0)])).length) Slot.unset).toArray = ls at hl ⊢
  have hl : lv_has ls 5 [(0, .ref (ad 0 0)), (1, .int x1), (2, .int x2), (3, .ref (ad 12 0))] := hl
  refine (show Sm (QH below _ s D cy n0 ad 3 18) (f_L_set σ x1 x2) p l e rmL_set s m _ below meth c s.heap [] 0 0 (F0 m 0 ls []) from ?_) r0 h0
  unfold f_L_set
  refine s_aload_n C0 dL_set_0 rfl (lv_at hl 3 rfl) ?_
  refine s_iconst (v := 0) C0 dL_set_1 (by decide) ?_
  refine s_aload_n C0 dL_set_2 rfl (lv_at hl 0 rfl) ?_
  refine s_iload_n C0 dL_set_3 rfl (lv_at hl 1 rfl) ?_
  refine s_iload_n C0 dL_set_4 rfl (lv_at hl 2 rfl) ?_
  obtain ⟨q, hq, -⟩ := wd_get (ad := ad) (cy := cy) (σ := σ) (nT := nT) (nO := nO) (rl_b (r := (0, 0)) (by decide))
  refine run_x (vv := vI) (As := .ref (ad 0 0) :: [.int x1, .int x2]) (rest := [.int 0, .ref (ad 12 0)]) hh (fun r ho => vx_runV (As := [.int x1, .int x2]) (rest := [.int 0, .ref (ad 12 0)]) C0.1 (c_X3_set C0.2.2.2.2.2.2 σ x1 x2 r ho) (qc78 C0.1.2.2.2.2 ⟨Nat.le_of_ble_eq_true rfl, Nat.le_of_ble_eq_true rfl⟩) ⟨Pw_blind, va_recv C0.2.2.1 hh.1 (q := (RX3, TX3, 6)) (ci := 3) rfl hq, fun U hU hW => ⟨rfl, hh.pw C0 U hU hW⟩⟩ rfl rfl hl.1 rfl (lv_room (Nat.le_of_ble_eq_true rfl)) dL_set_5 ⟨Nat.le_of_ble_eq_true rfl, Nat.le_of_ble_eq_true rfl⟩) (fun r x H locs cel q9 hx hh hce hcv hcl => ?_) (fun r1 H locs _ hh => ?_)
  · by_cases e0 : r.1 = 1
    · rw [if_pos e0] at hx; cases hx; rw [e0] at hcl
      refine h_catch C0 [] ⟨0, 10, 13, 21⟩ [⟨0, 10, 17, 13⟩, ⟨0, 10, 21, 23⟩] (by rw [htab]; rfl) (fun _ h => nomatch h) (by decide) (by decide) w400 w402 hce hcv hcl ?_
      refine lv_astore (lv' := [(4, .ref q9), (0, .ref (ad 0 0)), (1, .int x1), (2, .int x2), (3, .ref (ad 12 0))]) C0.1.1 C0.1.2.1 dL_set_13 hl (by decide) rfl (fun ls hl => ?_)
      refine lv_iconst (v := 1) C0.1.1 C0.1.2.1 dL_set_15 (by decide) ?_
      exact h_ret C0 AdX.rf hh hR (Nat.le_of_ble_eq_true rfl) (Nat.le_of_ble_eq_true rfl) dL_set_16
    rw [if_neg e0] at hx
    by_cases e1 : r.1 = 2
    · rw [if_pos e1] at hx; cases hx; rw [e1] at hcl
      refine h_catch C0 [⟨0, 10, 13, 21⟩] ⟨0, 10, 17, 13⟩ [⟨0, 10, 21, 23⟩] (by rw [htab]; rfl) (fun z hz => by
        rcases List.mem_cons.mp hz with rfl | hz
        · exact ⟨1, by decide, w400, by decide⟩
        exact absurd hz List.not_mem_nil) (by decide) (by decide) w392 w394 hce hcv hcl ?_
      refine lv_astore (lv' := [(4, .ref q9), (0, .ref (ad 0 0)), (1, .int x1), (2, .int x2), (3, .ref (ad 12 0))]) C0.1.1 C0.1.2.1 dL_set_17 hl (by decide) rfl (fun ls hl => ?_)
      refine lv_iconst (v := 2) C0.1.1 C0.1.2.1 dL_set_19 (by decide) ?_
      exact h_ret C0 AdX.rf hh hR (Nat.le_of_ble_eq_true rfl) (Nat.le_of_ble_eq_true rfl) dL_set_20
    rw [if_neg e1] at hx
    by_cases e2 : r.1 = 4
    · rw [if_pos e2] at hx; cases hx; rw [e2] at hcl
      refine h_catch C0 [⟨0, 10, 13, 21⟩, ⟨0, 10, 17, 13⟩] ⟨0, 10, 21, 23⟩ [] (by rw [htab]; rfl) (fun z hz => by
        rcases List.mem_cons.mp hz with rfl | hz
        · exact ⟨1, by decide, w400, by decide⟩
        rcases List.mem_cons.mp hz with rfl | hz
        · exact ⟨2, by decide, w392, by decide⟩
        exact absurd hz List.not_mem_nil) (by decide) (by decide) w401 w403 hce hcv hcl ?_
      refine lv_astore (lv' := [(4, .ref q9), (0, .ref (ad 0 0)), (1, .int x1), (2, .int x2), (3, .ref (ad 12 0))]) C0.1.1 C0.1.2.1 dL_set_21 hl (by decide) rfl (fun ls hl => ?_)
      refine lv_iconst (v := 3) C0.1.1 C0.1.2.1 dL_set_23 (by decide) ?_
      exact h_ret C0 AdX.rf hh hR (Nat.le_of_ble_eq_true rfl) (Nat.le_of_ble_eq_true rfl) dL_set_24
    rw [if_neg e2] at hx
    cases hx
  · have hl : lv_has ls 5 [(0, .ref (ad 0 0)), (1, .int x1), (2, .int x2), (3, .ref (ad 12 0))] := by exact hl
    refine s_i2l C0 dL_set_8 rfl ?_
    refine s_last C0 hh dL_set_9 (fun H locs hh => ?_)
    refine s_goto (tgt := 25) C0 dL_set_10 (by decide) ?_
    refine s_iconst (v := 0) C0 dL_set_25 (by decide) ?_
    intro r h; cases h; exact h_ret C0 AdX.rf hh hR (Nat.le_of_ble_eq_true rfl) (Nat.le_of_ble_eq_true rfl) dL_set_26
theorem qc79 {R : Room} {s : State} {args : Array Value} (ht : ∀ w ∈ allw, w.before args s = true) (hR : (rmX3_kerf).frames + 1 ≤ R.frames ∧ 8 + (3 + 11) + (rmX3_kerf).locals ≤ R.locals) : CallW R s args RL RX3 51 yX3_kerf cX3_kerf 3 (some .int) (wm yX3_kerf cX3_kerf 3 (some .int)) rmX3_kerf 1 6 1 := cwV 1 ht (gd_of (fun _ h => h) _ (mV w434 w436 w437 w64 w435)) rfl rfl rfl (by decide +kernel) hR
def rmL_kerf : Room := { frames := 8, cells := 1, slots := 6, locals := 133 }
def f_L_kerf (σ : Sg) (x1 : Int32) : Option (Int32 × Sg) :=
  bx (f_X3_kerf σ x1) (fun r1 => (some (0, svo r1.2 (r1.1 : Int32).toInt64))) (fun x => (if x.1 = 1 then some (1, x.2) else none))
set_option maxRecDepth 100000 in
set_option maxHeartbeats 8000000 in
theorem c_L_kerf (hst : l.stackTraces = false) (σ : Sg) (x1 : Int32) : CtH l yL_kerf (wh yL_kerf cL_kerf 4 (some .int) [(0, 9, 12, 21)]) rmL_kerf 1 6 [.ref (ad 0 0), .int x1, .ref (ad 12 0)] D cy n0 ad nT nO σ (f_L_kerf σ x1) := by
  intro r0 h0
  refine vx_ofWH (cc := cL_kerf) (maxL := 4) (ret := (some .int)) (hh := [(0, 9, 12, 21)]) (by decide +kernel) rfl ?_
  intro p e s m args below meth c s₁ B hml hv
  have htab : c.exceptionTable.toList = tableOf [(0, 9, 12, 21)] := vx_table (x := yL_kerf) (y := yL_kerf) B (atoms_spec (ws := (wh yL_kerf cL_kerf 4 (some .int) [(0, 9, 12, 21)])) B.pre _ List.mem_cons_self)
  obtain ⟨C0, hh, hR, rfl⟩ := ent B hml hst hv
  rw [lg_entry_eq]
  have hl := lv_entry ([.ref (ad 0 0), .int x1, .ref (ad 12 0)]) (n := 4) (Nat.le_of_ble_eq_true rfl)
  generalize (lg_sl ([.ref (ad 0 0), .int x1, .ref (ad 12 0)]) ++ List.replicate (4 - (lg_sl ([.ref (ad 0 0), .int x1, .ref (ad 12 0)])).length) Slot.unset).toArray = ls at hl ⊢
  have hl : lv_has ls 4 [(0, .ref (ad 0 0)), (1, .int x1), (2, .ref (ad 12 0))] := hl
  refine (show Sm (QH below _ s D cy n0 ad 1 6) (f_L_kerf σ x1) p l e rmL_kerf s m _ below meth c s.heap [] 0 0 (F0 m 0 ls []) from ?_) r0 h0
  unfold f_L_kerf
  refine s_aload_n C0 dL_kerf_0 rfl (lv_at hl 2 rfl) ?_
  refine s_iconst (v := 0) C0 dL_kerf_1 (by decide) ?_
  refine s_aload_n C0 dL_kerf_2 rfl (lv_at hl 0 rfl) ?_
  refine s_iload_n C0 dL_kerf_3 rfl (lv_at hl 1 rfl) ?_
  obtain ⟨q, hq, -⟩ := wd_get (ad := ad) (cy := cy) (σ := σ) (nT := nT) (nO := nO) (rl_b (r := (0, 0)) (by decide))
  refine run_x (vv := vI) (As := .ref (ad 0 0) :: [.int x1]) (rest := [.int 0, .ref (ad 12 0)]) hh (fun r ho => vx_runV (As := [.int x1]) (rest := [.int 0, .ref (ad 12 0)]) C0.1 (c_X3_kerf C0.2.2.2.2.2.2 σ x1 r ho) (qc79 C0.1.2.2.2.2 ⟨Nat.le_of_ble_eq_true rfl, Nat.le_of_ble_eq_true rfl⟩) ⟨Pw_blind, va_recv C0.2.2.1 hh.1 (q := (RX3, TX3, 6)) (ci := 3) rfl hq, fun U hU hW => ⟨rfl, hh.pw C0 U hU hW⟩⟩ rfl rfl hl.1 rfl (lv_room (Nat.le_of_ble_eq_true rfl)) dL_kerf_4 ⟨Nat.le_of_ble_eq_true rfl, Nat.le_of_ble_eq_true rfl⟩) (fun r x H locs cel q9 hx hh hce hcv hcl => ?_) (fun r1 H locs _ hh => ?_)
  · by_cases e0 : r.1 = 1
    · rw [if_pos e0] at hx; cases hx; rw [e0] at hcl
      refine h_catch C0 [] ⟨0, 9, 12, 21⟩ [] (by rw [htab]; rfl) (fun _ h => nomatch h) (by decide) (by decide) w400 w402 hce hcv hcl ?_
      refine lv_astore_n (lv' := [(3, .ref q9), (0, .ref (ad 0 0)), (1, .int x1), (2, .ref (ad 12 0))]) C0.1.1 C0.1.2.1 dL_kerf_12 rfl hl (by decide) rfl (fun ls hl => ?_)
      refine lv_iconst (v := 1) C0.1.1 C0.1.2.1 dL_kerf_13 (by decide) ?_
      exact h_ret C0 AdX.rf hh hR (Nat.le_of_ble_eq_true rfl) (Nat.le_of_ble_eq_true rfl) dL_kerf_14
    rw [if_neg e0] at hx
    cases hx
  · have hl : lv_has ls 4 [(0, .ref (ad 0 0)), (1, .int x1), (2, .ref (ad 12 0))] := by exact hl
    refine s_i2l C0 dL_kerf_7 rfl ?_
    refine s_last C0 hh dL_kerf_8 (fun H locs hh => ?_)
    refine s_goto (tgt := 15) C0 dL_kerf_9 (by decide) ?_
    refine s_iconst (v := 0) C0 dL_kerf_15 (by decide) ?_
    intro r h; cases h; exact h_ret C0 AdX.rf hh hR (Nat.le_of_ble_eq_true rfl) (Nat.le_of_ble_eq_true rfl) dL_kerf_16
theorem qc80 {R : Room} {s : State} {args : Array Value} (ht : ∀ w ∈ allw, w.before args s = true) (hR : (rmX3_gullets).frames + 1 ≤ R.frames ∧ 8 + (2 + 11) + (rmX3_gullets).locals ≤ R.locals) : CallW R s args RL RX3 54 yX3_gullets cX3_gullets 2 (some .int) (wm yX3_gullets cX3_gullets 2 (some .int)) rmX3_gullets 1 6 1 := cwV 1 ht (gd_of (fun _ h => h) _ (mV w438 w440 w441 w64 w439)) rfl rfl rfl (by decide +kernel) hR
def rmL_gullets : Room := { frames := 8, cells := 1, slots := 6, locals := 132 }
def f_L_gullets (σ : Sg) (x1 : Int32) : Option (Int32 × Sg) :=
  bx (f_X3_gullets σ x1) (fun r1 => (some (0, svo r1.2 (r1.1 : Int32).toInt64))) (fun x => (if x.1 = 1 then some (1, x.2) else none))
set_option maxRecDepth 100000 in
set_option maxHeartbeats 8000000 in
theorem c_L_gullets (hst : l.stackTraces = false) (σ : Sg) (x1 : Int32) : CtH l yL_gullets (wh yL_gullets cL_gullets 4 (some .int) [(0, 9, 12, 21)]) rmL_gullets 1 6 [.ref (ad 0 0), .int x1, .ref (ad 12 0)] D cy n0 ad nT nO σ (f_L_gullets σ x1) := by
  intro r0 h0
  refine vx_ofWH (cc := cL_gullets) (maxL := 4) (ret := (some .int)) (hh := [(0, 9, 12, 21)]) (by decide +kernel) rfl ?_
  intro p e s m args below meth c s₁ B hml hv
  have htab : c.exceptionTable.toList = tableOf [(0, 9, 12, 21)] := vx_table (x := yL_gullets) (y := yL_gullets) B (atoms_spec (ws := (wh yL_gullets cL_gullets 4 (some .int) [(0, 9, 12, 21)])) B.pre _ List.mem_cons_self)
  obtain ⟨C0, hh, hR, rfl⟩ := ent B hml hst hv
  rw [lg_entry_eq]
  have hl := lv_entry ([.ref (ad 0 0), .int x1, .ref (ad 12 0)]) (n := 4) (Nat.le_of_ble_eq_true rfl)
  generalize (lg_sl ([.ref (ad 0 0), .int x1, .ref (ad 12 0)]) ++ List.replicate (4 - (lg_sl ([.ref (ad 0 0), .int x1, .ref (ad 12 0)])).length) Slot.unset).toArray = ls at hl ⊢
  have hl : lv_has ls 4 [(0, .ref (ad 0 0)), (1, .int x1), (2, .ref (ad 12 0))] := hl
  refine (show Sm (QH below _ s D cy n0 ad 1 6) (f_L_gullets σ x1) p l e rmL_gullets s m _ below meth c s.heap [] 0 0 (F0 m 0 ls []) from ?_) r0 h0
  unfold f_L_gullets
  refine s_aload_n C0 dL_gullets_0 rfl (lv_at hl 2 rfl) ?_
  refine s_iconst (v := 0) C0 dL_gullets_1 (by decide) ?_
  refine s_aload_n C0 dL_gullets_2 rfl (lv_at hl 0 rfl) ?_
  refine s_iload_n C0 dL_gullets_3 rfl (lv_at hl 1 rfl) ?_
  obtain ⟨q, hq, -⟩ := wd_get (ad := ad) (cy := cy) (σ := σ) (nT := nT) (nO := nO) (rl_b (r := (0, 0)) (by decide))
  refine run_x (vv := vI) (As := .ref (ad 0 0) :: [.int x1]) (rest := [.int 0, .ref (ad 12 0)]) hh (fun r ho => vx_runV (As := [.int x1]) (rest := [.int 0, .ref (ad 12 0)]) C0.1 (c_X3_gullets C0.2.2.2.2.2.2 σ x1 r ho) (qc80 C0.1.2.2.2.2 ⟨Nat.le_of_ble_eq_true rfl, Nat.le_of_ble_eq_true rfl⟩) ⟨Pw_blind, va_recv C0.2.2.1 hh.1 (q := (RX3, TX3, 6)) (ci := 3) rfl hq, fun U hU hW => ⟨rfl, hh.pw C0 U hU hW⟩⟩ rfl rfl hl.1 rfl (lv_room (Nat.le_of_ble_eq_true rfl)) dL_gullets_4 ⟨Nat.le_of_ble_eq_true rfl, Nat.le_of_ble_eq_true rfl⟩) (fun r x H locs cel q9 hx hh hce hcv hcl => ?_) (fun r1 H locs _ hh => ?_)
  · by_cases e0 : r.1 = 1
    · rw [if_pos e0] at hx; cases hx; rw [e0] at hcl
      refine h_catch C0 [] ⟨0, 9, 12, 21⟩ [] (by rw [htab]; rfl) (fun _ h => nomatch h) (by decide) (by decide) w400 w402 hce hcv hcl ?_
      refine lv_astore_n (lv' := [(3, .ref q9), (0, .ref (ad 0 0)), (1, .int x1), (2, .ref (ad 12 0))]) C0.1.1 C0.1.2.1 dL_gullets_12 rfl hl (by decide) rfl (fun ls hl => ?_)
      refine lv_iconst (v := 1) C0.1.1 C0.1.2.1 dL_gullets_13 (by decide) ?_
      exact h_ret C0 AdX.rf hh hR (Nat.le_of_ble_eq_true rfl) (Nat.le_of_ble_eq_true rfl) dL_gullets_14
    rw [if_neg e0] at hx
    cases hx
  · have hl : lv_has ls 4 [(0, .ref (ad 0 0)), (1, .int x1), (2, .ref (ad 12 0))] := by exact hl
    refine s_i2l C0 dL_gullets_7 rfl ?_
    refine s_last C0 hh dL_gullets_8 (fun H locs hh => ?_)
    refine s_goto (tgt := 15) C0 dL_gullets_9 (by decide) ?_
    refine s_iconst (v := 0) C0 dL_gullets_15 (by decide) ?_
    intro r h; cases h; exact h_ret C0 AdX.rf hh hR (Nat.le_of_ble_eq_true rfl) (Nat.le_of_ble_eq_true rfl) dL_gullets_16
theorem qc81 {R : Room} {s : State} {args : Array Value} (ht : ∀ w ∈ allw, w.before args s = true) (hR : (rmX3_thickness).frames + 1 ≤ R.frames ∧ 8 + (2 + 11) + (rmX3_thickness).locals ≤ R.locals) : CallW R s args RL RX3 57 yX3_thickness cX3_thickness 2 (some .int) (wm yX3_thickness cX3_thickness 2 (some .int)) rmX3_thickness 1 6 1 := cwV 1 ht (gd_of (fun _ h => h) _ (mV w442 w444 w445 w64 w443)) rfl rfl rfl (by decide +kernel) hR
def rmL_thickness : Room := { frames := 8, cells := 1, slots := 6, locals := 132 }
def f_L_thickness (σ : Sg) (x1 : Int32) : Option (Int32 × Sg) :=
  bx (f_X3_thickness σ x1) (fun r1 => (some (0, svo r1.2 (r1.1 : Int32).toInt64))) (fun x => (if x.1 = 1 then some (1, x.2) else none))
set_option maxRecDepth 100000 in
set_option maxHeartbeats 8000000 in
theorem c_L_thickness (hst : l.stackTraces = false) (σ : Sg) (x1 : Int32) : CtH l yL_thickness (wh yL_thickness cL_thickness 4 (some .int) [(0, 9, 12, 21)]) rmL_thickness 1 6 [.ref (ad 0 0), .int x1, .ref (ad 12 0)] D cy n0 ad nT nO σ (f_L_thickness σ x1) := by
  intro r0 h0
  refine vx_ofWH (cc := cL_thickness) (maxL := 4) (ret := (some .int)) (hh := [(0, 9, 12, 21)]) (by decide +kernel) rfl ?_
  intro p e s m args below meth c s₁ B hml hv
  have htab : c.exceptionTable.toList = tableOf [(0, 9, 12, 21)] := vx_table (x := yL_thickness) (y := yL_thickness) B (atoms_spec (ws := (wh yL_thickness cL_thickness 4 (some .int) [(0, 9, 12, 21)])) B.pre _ List.mem_cons_self)
  obtain ⟨C0, hh, hR, rfl⟩ := ent B hml hst hv
  rw [lg_entry_eq]
  have hl := lv_entry ([.ref (ad 0 0), .int x1, .ref (ad 12 0)]) (n := 4) (Nat.le_of_ble_eq_true rfl)
  generalize (lg_sl ([.ref (ad 0 0), .int x1, .ref (ad 12 0)]) ++ List.replicate (4 - (lg_sl ([.ref (ad 0 0), .int x1, .ref (ad 12 0)])).length) Slot.unset).toArray = ls at hl ⊢
  have hl : lv_has ls 4 [(0, .ref (ad 0 0)), (1, .int x1), (2, .ref (ad 12 0))] := hl
  refine (show Sm (QH below _ s D cy n0 ad 1 6) (f_L_thickness σ x1) p l e rmL_thickness s m _ below meth c s.heap [] 0 0 (F0 m 0 ls []) from ?_) r0 h0
  unfold f_L_thickness
  refine s_aload_n C0 dL_thickness_0 rfl (lv_at hl 2 rfl) ?_
  refine s_iconst (v := 0) C0 dL_thickness_1 (by decide) ?_
  refine s_aload_n C0 dL_thickness_2 rfl (lv_at hl 0 rfl) ?_
  refine s_iload_n C0 dL_thickness_3 rfl (lv_at hl 1 rfl) ?_
  obtain ⟨q, hq, -⟩ := wd_get (ad := ad) (cy := cy) (σ := σ) (nT := nT) (nO := nO) (rl_b (r := (0, 0)) (by decide))
  refine run_x (vv := vI) (As := .ref (ad 0 0) :: [.int x1]) (rest := [.int 0, .ref (ad 12 0)]) hh (fun r ho => vx_runV (As := [.int x1]) (rest := [.int 0, .ref (ad 12 0)]) C0.1 (c_X3_thickness C0.2.2.2.2.2.2 σ x1 r ho) (qc81 C0.1.2.2.2.2 ⟨Nat.le_of_ble_eq_true rfl, Nat.le_of_ble_eq_true rfl⟩) ⟨Pw_blind, va_recv C0.2.2.1 hh.1 (q := (RX3, TX3, 6)) (ci := 3) rfl hq, fun U hU hW => ⟨rfl, hh.pw C0 U hU hW⟩⟩ rfl rfl hl.1 rfl (lv_room (Nat.le_of_ble_eq_true rfl)) dL_thickness_4 ⟨Nat.le_of_ble_eq_true rfl, Nat.le_of_ble_eq_true rfl⟩) (fun r x H locs cel q9 hx hh hce hcv hcl => ?_) (fun r1 H locs _ hh => ?_)
  · by_cases e0 : r.1 = 1
    · rw [if_pos e0] at hx; cases hx; rw [e0] at hcl
      refine h_catch C0 [] ⟨0, 9, 12, 21⟩ [] (by rw [htab]; rfl) (fun _ h => nomatch h) (by decide) (by decide) w400 w402 hce hcv hcl ?_
      refine lv_astore_n (lv' := [(3, .ref q9), (0, .ref (ad 0 0)), (1, .int x1), (2, .ref (ad 12 0))]) C0.1.1 C0.1.2.1 dL_thickness_12 rfl hl (by decide) rfl (fun ls hl => ?_)
      refine lv_iconst (v := 1) C0.1.1 C0.1.2.1 dL_thickness_13 (by decide) ?_
      exact h_ret C0 AdX.rf hh hR (Nat.le_of_ble_eq_true rfl) (Nat.le_of_ble_eq_true rfl) dL_thickness_14
    rw [if_neg e0] at hx
    cases hx
  · have hl : lv_has ls 4 [(0, .ref (ad 0 0)), (1, .int x1), (2, .ref (ad 12 0))] := by exact hl
    refine s_i2l C0 dL_thickness_7 rfl ?_
    refine s_last C0 hh dL_thickness_8 (fun H locs hh => ?_)
    refine s_goto (tgt := 15) C0 dL_thickness_9 (by decide) ?_
    refine s_iconst (v := 0) C0 dL_thickness_15 (by decide) ?_
    intro r h; cases h; exact h_ret C0 AdX.rf hh hR (Nat.le_of_ble_eq_true rfl) (Nat.le_of_ble_eq_true rfl) dL_thickness_16
theorem qc82 {R : Room} {s : State} {args : Array Value} (ht : ∀ w ∈ allw, w.before args s = true) (hR : (rmX3_state).frames + 1 ≤ R.frames ∧ 8 + (2 + 11) + (rmX3_state).locals ≤ R.locals) : CallW R s args RL RX3 60 yX3_state cX3_state 2 (some .char) (wm yX3_state cX3_state 2 (some .char)) rmX3_state 1 6 1 := cwV 1 ht (gd_of (fun _ h => h) _ (mV w446 w448 w449 w64 w447)) rfl rfl rfl (by decide +kernel) hR
def rmL_state : Room := { frames := 8, cells := 1, slots := 6, locals := 132 }
def f_L_state (σ : Sg) (x1 : Int32) : Option (Int32 × Sg) :=
  bx (f_X3_state σ x1) (fun r1 => (some (0, svo r1.2 (r1.1 : Int32).toInt64))) (fun x => (if x.1 = 1 then some (1, x.2) else none))
set_option maxRecDepth 100000 in
set_option maxHeartbeats 8000000 in
theorem c_L_state (hst : l.stackTraces = false) (σ : Sg) (x1 : Int32) : CtH l yL_state (wh yL_state cL_state 4 (some .int) [(0, 9, 12, 21)]) rmL_state 1 6 [.ref (ad 0 0), .int x1, .ref (ad 12 0)] D cy n0 ad nT nO σ (f_L_state σ x1) := by
  intro r0 h0
  refine vx_ofWH (cc := cL_state) (maxL := 4) (ret := (some .int)) (hh := [(0, 9, 12, 21)]) (by decide +kernel) rfl ?_
  intro p e s m args below meth c s₁ B hml hv
  have htab : c.exceptionTable.toList = tableOf [(0, 9, 12, 21)] := vx_table (x := yL_state) (y := yL_state) B (atoms_spec (ws := (wh yL_state cL_state 4 (some .int) [(0, 9, 12, 21)])) B.pre _ List.mem_cons_self)
  obtain ⟨C0, hh, hR, rfl⟩ := ent B hml hst hv
  rw [lg_entry_eq]
  have hl := lv_entry ([.ref (ad 0 0), .int x1, .ref (ad 12 0)]) (n := 4) (Nat.le_of_ble_eq_true rfl)
  generalize (lg_sl ([.ref (ad 0 0), .int x1, .ref (ad 12 0)]) ++ List.replicate (4 - (lg_sl ([.ref (ad 0 0), .int x1, .ref (ad 12 0)])).length) Slot.unset).toArray = ls at hl ⊢
  have hl : lv_has ls 4 [(0, .ref (ad 0 0)), (1, .int x1), (2, .ref (ad 12 0))] := hl
  refine (show Sm (QH below _ s D cy n0 ad 1 6) (f_L_state σ x1) p l e rmL_state s m _ below meth c s.heap [] 0 0 (F0 m 0 ls []) from ?_) r0 h0
  unfold f_L_state
  refine s_aload_n C0 dL_state_0 rfl (lv_at hl 2 rfl) ?_
  refine s_iconst (v := 0) C0 dL_state_1 (by decide) ?_
  refine s_aload_n C0 dL_state_2 rfl (lv_at hl 0 rfl) ?_
  refine s_iload_n C0 dL_state_3 rfl (lv_at hl 1 rfl) ?_
  obtain ⟨q, hq, -⟩ := wd_get (ad := ad) (cy := cy) (σ := σ) (nT := nT) (nO := nO) (rl_b (r := (0, 0)) (by decide))
  refine run_x (vv := vI) (As := .ref (ad 0 0) :: [.int x1]) (rest := [.int 0, .ref (ad 12 0)]) hh (fun r ho => vx_runV (As := [.int x1]) (rest := [.int 0, .ref (ad 12 0)]) C0.1 (c_X3_state C0.2.2.2.2.2.2 σ x1 r ho) (qc82 C0.1.2.2.2.2 ⟨Nat.le_of_ble_eq_true rfl, Nat.le_of_ble_eq_true rfl⟩) ⟨Pw_blind, va_recv C0.2.2.1 hh.1 (q := (RX3, TX3, 6)) (ci := 3) rfl hq, fun U hU hW => ⟨rfl, hh.pw C0 U hU hW⟩⟩ rfl rfl hl.1 rfl (lv_room (Nat.le_of_ble_eq_true rfl)) dL_state_4 ⟨Nat.le_of_ble_eq_true rfl, Nat.le_of_ble_eq_true rfl⟩) (fun r x H locs cel q9 hx hh hce hcv hcl => ?_) (fun r1 H locs _ hh => ?_)
  · by_cases e0 : r.1 = 1
    · rw [if_pos e0] at hx; cases hx; rw [e0] at hcl
      refine h_catch C0 [] ⟨0, 9, 12, 21⟩ [] (by rw [htab]; rfl) (fun _ h => nomatch h) (by decide) (by decide) w400 w402 hce hcv hcl ?_
      refine lv_astore_n (lv' := [(3, .ref q9), (0, .ref (ad 0 0)), (1, .int x1), (2, .ref (ad 12 0))]) C0.1.1 C0.1.2.1 dL_state_12 rfl hl (by decide) rfl (fun ls hl => ?_)
      refine lv_iconst (v := 1) C0.1.1 C0.1.2.1 dL_state_13 (by decide) ?_
      exact h_ret C0 AdX.rf hh hR (Nat.le_of_ble_eq_true rfl) (Nat.le_of_ble_eq_true rfl) dL_state_14
    rw [if_neg e0] at hx
    cases hx
  · have hl : lv_has ls 4 [(0, .ref (ad 0 0)), (1, .int x1), (2, .ref (ad 12 0))] := by exact hl
    refine s_i2l C0 dL_state_7 rfl ?_
    refine s_last C0 hh dL_state_8 (fun H locs hh => ?_)
    refine s_goto (tgt := 15) C0 dL_state_9 (by decide) ?_
    refine s_iconst (v := 0) C0 dL_state_15 (by decide) ?_
    intro r h; cases h; exact h_ret C0 AdX.rf hh hR (Nat.le_of_ble_eq_true rfl) (Nat.le_of_ble_eq_true rfl) dL_state_16
theorem qc83 {R : Room} {s : State} {args : Array Value} (ht : ∀ w ∈ allw, w.before args s = true) (hR : (rmX3_harden).frames + 1 ≤ R.frames ∧ 8 + (5 + 11) + (rmX3_harden).locals ≤ R.locals) : CallW R s args RL RX3 64 yX3_harden cX3_harden 5 (some .int) (wm yX3_harden cX3_harden 5 (some .int)) rmX3_harden 4 24 3 := cwV 3 ht (gd_of (fun _ h => h) _ (mV w450 w452 w453 w64 w451)) rfl rfl rfl (by decide +kernel) hR
def rmL_harden : Room := { frames := 8, cells := 4, slots := 24, locals := 136 }
def f_L_harden (σ : Sg) (x1 : Int32) (x2 : Int32) (x3 : Int32) : Option (Int32 × Sg) :=
  bx (f_X3_harden σ x1 x2 x3) (fun r1 => (some (0, svo r1.2 (r1.1 : Int32).toInt64))) (fun x => (if x.1 = 1 then some (1, x.2) else (if x.1 = 2 then some (2, x.2) else (if x.1 = 4 then some (3, x.2) else none))))
set_option maxRecDepth 100000 in
set_option maxHeartbeats 8000000 in
theorem c_L_harden (hst : l.stackTraces = false) (σ : Sg) (x1 : Int32) (x2 : Int32) (x3 : Int32) : CtH l yL_harden (wh yL_harden cL_harden 6 (some .int) [(0, 12, 15, 21), (0, 12, 19, 13), (0, 12, 23, 23)]) rmL_harden 4 24 [.ref (ad 0 0), .int x1, .int x2, .int x3, .ref (ad 12 0)] D cy n0 ad nT nO σ (f_L_harden σ x1 x2 x3) := by
  intro r0 h0
  refine vx_ofWH (cc := cL_harden) (maxL := 6) (ret := (some .int)) (hh := [(0, 12, 15, 21), (0, 12, 19, 13), (0, 12, 23, 23)]) (by decide +kernel) rfl ?_
  intro p e s m args below meth c s₁ B hml hv
  have htab : c.exceptionTable.toList = tableOf [(0, 12, 15, 21), (0, 12, 19, 13), (0, 12, 23, 23)] := vx_table (x := yL_harden) (y := yL_harden) B (atoms_spec (ws := (wh yL_harden cL_harden 6 (some .int) [(0, 12, 15, 21), (0, 12, 19, 13), (0, 12, 23, 23)])) B.pre _ List.mem_cons_self)
  obtain ⟨C0, hh, hR, rfl⟩ := ent B hml hst hv
  rw [lg_entry_eq]
  have hl := lv_entry ([.ref (ad 0 0), .int x1, .int x2, .int x3, .ref (ad 12 0)]) (n := 6) (Nat.le_of_ble_eq_true rfl)
  generalize (lg_sl ([.ref (ad 0 0), .int x1, .int x2, .int x3, .ref (ad 12 0)]) ++ List.replicate (6 - (lg_sl ([.ref (ad 0 0), .int x1, .int x2, .int x3, .ref (ad 12 0)])).length) Slot.unset).toArray = ls at hl ⊢
  have hl : lv_has ls 6 [(0, .ref (ad 0 0)), (1, .int x1), (2, .int x2), (3, .int x3), (4, .ref (ad 12 0))] := hl
  refine (show Sm (QH below _ s D cy n0 ad 4 24) (f_L_harden σ x1 x2 x3) p l e rmL_harden s m _ below meth c s.heap [] 0 0 (F0 m 0 ls []) from ?_) r0 h0
  unfold f_L_harden
  refine s_aload C0 dL_harden_0 (lv_at hl 4 rfl) ?_
  refine s_iconst (v := 0) C0 dL_harden_2 (by decide) ?_
  refine s_aload_n C0 dL_harden_3 rfl (lv_at hl 0 rfl) ?_
  refine s_iload_n C0 dL_harden_4 rfl (lv_at hl 1 rfl) ?_
  refine s_iload_n C0 dL_harden_5 rfl (lv_at hl 2 rfl) ?_
  refine s_iload_n C0 dL_harden_6 rfl (lv_at hl 3 rfl) ?_
  obtain ⟨q, hq, -⟩ := wd_get (ad := ad) (cy := cy) (σ := σ) (nT := nT) (nO := nO) (rl_b (r := (0, 0)) (by decide))
  refine run_x (vv := vI) (As := .ref (ad 0 0) :: [.int x1, .int x2, .int x3]) (rest := [.int 0, .ref (ad 12 0)]) hh (fun r ho => vx_runV (As := [.int x1, .int x2, .int x3]) (rest := [.int 0, .ref (ad 12 0)]) C0.1 (c_X3_harden C0.2.2.2.2.2.2 σ x1 x2 x3 r ho) (qc83 C0.1.2.2.2.2 ⟨Nat.le_of_ble_eq_true rfl, Nat.le_of_ble_eq_true rfl⟩) ⟨Pw_blind, va_recv C0.2.2.1 hh.1 (q := (RX3, TX3, 6)) (ci := 3) rfl hq, fun U hU hW => ⟨rfl, hh.pw C0 U hU hW⟩⟩ rfl rfl hl.1 rfl (lv_room (Nat.le_of_ble_eq_true rfl)) dL_harden_7 ⟨Nat.le_of_ble_eq_true rfl, Nat.le_of_ble_eq_true rfl⟩) (fun r x H locs cel q9 hx hh hce hcv hcl => ?_) (fun r1 H locs _ hh => ?_)
  · by_cases e0 : r.1 = 1
    · rw [if_pos e0] at hx; cases hx; rw [e0] at hcl
      refine h_catch C0 [] ⟨0, 12, 15, 21⟩ [⟨0, 12, 19, 13⟩, ⟨0, 12, 23, 23⟩] (by rw [htab]; rfl) (fun _ h => nomatch h) (by decide) (by decide) w400 w402 hce hcv hcl ?_
      refine lv_astore (lv' := [(5, .ref q9), (0, .ref (ad 0 0)), (1, .int x1), (2, .int x2), (3, .int x3), (4, .ref (ad 12 0))]) C0.1.1 C0.1.2.1 dL_harden_15 hl (by decide) rfl (fun ls hl => ?_)
      refine lv_iconst (v := 1) C0.1.1 C0.1.2.1 dL_harden_17 (by decide) ?_
      exact h_ret C0 AdX.rf hh hR (Nat.le_of_ble_eq_true rfl) (Nat.le_of_ble_eq_true rfl) dL_harden_18
    rw [if_neg e0] at hx
    by_cases e1 : r.1 = 2
    · rw [if_pos e1] at hx; cases hx; rw [e1] at hcl
      refine h_catch C0 [⟨0, 12, 15, 21⟩] ⟨0, 12, 19, 13⟩ [⟨0, 12, 23, 23⟩] (by rw [htab]; rfl) (fun z hz => by
        rcases List.mem_cons.mp hz with rfl | hz
        · exact ⟨1, by decide, w400, by decide⟩
        exact absurd hz List.not_mem_nil) (by decide) (by decide) w392 w394 hce hcv hcl ?_
      refine lv_astore (lv' := [(5, .ref q9), (0, .ref (ad 0 0)), (1, .int x1), (2, .int x2), (3, .int x3), (4, .ref (ad 12 0))]) C0.1.1 C0.1.2.1 dL_harden_19 hl (by decide) rfl (fun ls hl => ?_)
      refine lv_iconst (v := 2) C0.1.1 C0.1.2.1 dL_harden_21 (by decide) ?_
      exact h_ret C0 AdX.rf hh hR (Nat.le_of_ble_eq_true rfl) (Nat.le_of_ble_eq_true rfl) dL_harden_22
    rw [if_neg e1] at hx
    by_cases e2 : r.1 = 4
    · rw [if_pos e2] at hx; cases hx; rw [e2] at hcl
      refine h_catch C0 [⟨0, 12, 15, 21⟩, ⟨0, 12, 19, 13⟩] ⟨0, 12, 23, 23⟩ [] (by rw [htab]; rfl) (fun z hz => by
        rcases List.mem_cons.mp hz with rfl | hz
        · exact ⟨1, by decide, w400, by decide⟩
        rcases List.mem_cons.mp hz with rfl | hz
        · exact ⟨2, by decide, w392, by decide⟩
        exact absurd hz List.not_mem_nil) (by decide) (by decide) w401 w403 hce hcv hcl ?_
      refine lv_astore (lv' := [(5, .ref q9), (0, .ref (ad 0 0)), (1, .int x1), (2, .int x2), (3, .int x3), (4, .ref (ad 12 0))]) C0.1.1 C0.1.2.1 dL_harden_23 hl (by decide) rfl (fun ls hl => ?_)
      refine lv_iconst (v := 3) C0.1.1 C0.1.2.1 dL_harden_25 (by decide) ?_
      exact h_ret C0 AdX.rf hh hR (Nat.le_of_ble_eq_true rfl) (Nat.le_of_ble_eq_true rfl) dL_harden_26
    rw [if_neg e2] at hx
    cases hx
  · have hl : lv_has ls 6 [(0, .ref (ad 0 0)), (1, .int x1), (2, .int x2), (3, .int x3), (4, .ref (ad 12 0))] := by exact hl
    refine s_i2l C0 dL_harden_10 rfl ?_
    refine s_last C0 hh dL_harden_11 (fun H locs hh => ?_)
    refine s_goto (tgt := 27) C0 dL_harden_12 (by decide) ?_
    refine s_iconst (v := 0) C0 dL_harden_27 (by decide) ?_
    intro r h; cases h; exact h_ret C0 AdX.rf hh hR (Nat.le_of_ble_eq_true rfl) (Nat.le_of_ble_eq_true rfl) dL_harden_28
theorem qc84 {R : Room} {s : State} {args : Array Value} (ht : ∀ w ∈ allw, w.before args s = true) (hR : (rmX3_hardness).frames + 1 ≤ R.frames ∧ 8 + (2 + 11) + (rmX3_hardness).locals ≤ R.locals) : CallW R s args RL RX3 68 yX3_hardness cX3_hardness 2 (some .int) (wm yX3_hardness cX3_hardness 2 (some .int)) rmX3_hardness 1 6 1 := cwV 1 ht (gd_of (fun _ h => h) _ (mV w454 w456 w457 w64 w455)) rfl rfl rfl (by decide +kernel) hR
def rmL_hardness : Room := { frames := 8, cells := 1, slots := 6, locals := 132 }
def f_L_hardness (σ : Sg) (x1 : Int32) : Option (Int32 × Sg) :=
  bx (f_X3_hardness σ x1) (fun r1 => (some (0, svo r1.2 (r1.1 : Int32).toInt64))) (fun x => (if x.1 = 1 then some (1, x.2) else none))
set_option maxRecDepth 100000 in
set_option maxHeartbeats 8000000 in
theorem c_L_hardness (hst : l.stackTraces = false) (σ : Sg) (x1 : Int32) : CtH l yL_hardness (wh yL_hardness cL_hardness 4 (some .int) [(0, 9, 12, 21)]) rmL_hardness 1 6 [.ref (ad 0 0), .int x1, .ref (ad 12 0)] D cy n0 ad nT nO σ (f_L_hardness σ x1) := by
  intro r0 h0
  refine vx_ofWH (cc := cL_hardness) (maxL := 4) (ret := (some .int)) (hh := [(0, 9, 12, 21)]) (by decide +kernel) rfl ?_
  intro p e s m args below meth c s₁ B hml hv
  have htab : c.exceptionTable.toList = tableOf [(0, 9, 12, 21)] := vx_table (x := yL_hardness) (y := yL_hardness) B (atoms_spec (ws := (wh yL_hardness cL_hardness 4 (some .int) [(0, 9, 12, 21)])) B.pre _ List.mem_cons_self)
  obtain ⟨C0, hh, hR, rfl⟩ := ent B hml hst hv
  rw [lg_entry_eq]
  have hl := lv_entry ([.ref (ad 0 0), .int x1, .ref (ad 12 0)]) (n := 4) (Nat.le_of_ble_eq_true rfl)
  generalize (lg_sl ([.ref (ad 0 0), .int x1, .ref (ad 12 0)]) ++ List.replicate (4 - (lg_sl ([.ref (ad 0 0), .int x1, .ref (ad 12 0)])).length) Slot.unset).toArray = ls at hl ⊢
  have hl : lv_has ls 4 [(0, .ref (ad 0 0)), (1, .int x1), (2, .ref (ad 12 0))] := hl
  refine (show Sm (QH below _ s D cy n0 ad 1 6) (f_L_hardness σ x1) p l e rmL_hardness s m _ below meth c s.heap [] 0 0 (F0 m 0 ls []) from ?_) r0 h0
  unfold f_L_hardness
  refine s_aload_n C0 dL_hardness_0 rfl (lv_at hl 2 rfl) ?_
  refine s_iconst (v := 0) C0 dL_hardness_1 (by decide) ?_
  refine s_aload_n C0 dL_hardness_2 rfl (lv_at hl 0 rfl) ?_
  refine s_iload_n C0 dL_hardness_3 rfl (lv_at hl 1 rfl) ?_
  obtain ⟨q, hq, -⟩ := wd_get (ad := ad) (cy := cy) (σ := σ) (nT := nT) (nO := nO) (rl_b (r := (0, 0)) (by decide))
  refine run_x (vv := vI) (As := .ref (ad 0 0) :: [.int x1]) (rest := [.int 0, .ref (ad 12 0)]) hh (fun r ho => vx_runV (As := [.int x1]) (rest := [.int 0, .ref (ad 12 0)]) C0.1 (c_X3_hardness C0.2.2.2.2.2.2 σ x1 r ho) (qc84 C0.1.2.2.2.2 ⟨Nat.le_of_ble_eq_true rfl, Nat.le_of_ble_eq_true rfl⟩) ⟨Pw_blind, va_recv C0.2.2.1 hh.1 (q := (RX3, TX3, 6)) (ci := 3) rfl hq, fun U hU hW => ⟨rfl, hh.pw C0 U hU hW⟩⟩ rfl rfl hl.1 rfl (lv_room (Nat.le_of_ble_eq_true rfl)) dL_hardness_4 ⟨Nat.le_of_ble_eq_true rfl, Nat.le_of_ble_eq_true rfl⟩) (fun r x H locs cel q9 hx hh hce hcv hcl => ?_) (fun r1 H locs _ hh => ?_)
  · by_cases e0 : r.1 = 1
    · rw [if_pos e0] at hx; cases hx; rw [e0] at hcl
      refine h_catch C0 [] ⟨0, 9, 12, 21⟩ [] (by rw [htab]; rfl) (fun _ h => nomatch h) (by decide) (by decide) w400 w402 hce hcv hcl ?_
      refine lv_astore_n (lv' := [(3, .ref q9), (0, .ref (ad 0 0)), (1, .int x1), (2, .ref (ad 12 0))]) C0.1.1 C0.1.2.1 dL_hardness_12 rfl hl (by decide) rfl (fun ls hl => ?_)
      refine lv_iconst (v := 1) C0.1.1 C0.1.2.1 dL_hardness_13 (by decide) ?_
      exact h_ret C0 AdX.rf hh hR (Nat.le_of_ble_eq_true rfl) (Nat.le_of_ble_eq_true rfl) dL_hardness_14
    rw [if_neg e0] at hx
    cases hx
  · have hl : lv_has ls 4 [(0, .ref (ad 0 0)), (1, .int x1), (2, .ref (ad 12 0))] := by exact hl
    refine s_i2l C0 dL_hardness_7 rfl ?_
    refine s_last C0 hh dL_hardness_8 (fun H locs hh => ?_)
    refine s_goto (tgt := 15) C0 dL_hardness_9 (by decide) ?_
    refine s_iconst (v := 0) C0 dL_hardness_15 (by decide) ?_
    intro r h; cases h; exact h_ret C0 AdX.rf hh hR (Nat.le_of_ble_eq_true rfl) (Nat.le_of_ble_eq_true rfl) dL_hardness_16
theorem qc85 {R : Room} {s : State} {args : Array Value} (ht : ∀ w ∈ allw, w.before args s = true) (hR : (rmX3_bend).frames + 1 ≤ R.frames ∧ 8 + (2 + 11) + (rmX3_bend).locals ≤ R.locals) : CallW R s args RL RX3 71 yX3_bend cX3_bend 2 (some .int) (wm yX3_bend cX3_bend 2 (some .int)) rmX3_bend 1 6 1 := cwV 1 ht (gd_of (fun _ h => h) _ (mV w458 w460 w461 w64 w459)) rfl rfl rfl (by decide +kernel) hR
def rmL_bend : Room := { frames := 8, cells := 1, slots := 6, locals := 132 }
def f_L_bend (σ : Sg) (x1 : Int32) : Option (Int32 × Sg) :=
  bx (f_X3_bend σ x1) (fun r1 => (some (0, svo r1.2 (r1.1 : Int32).toInt64))) (fun x => (if x.1 = 1 then some (1, x.2) else none))
set_option maxRecDepth 100000 in
set_option maxHeartbeats 8000000 in
theorem c_L_bend (hst : l.stackTraces = false) (σ : Sg) (x1 : Int32) : CtH l yL_bend (wh yL_bend cL_bend 4 (some .int) [(0, 9, 12, 21)]) rmL_bend 1 6 [.ref (ad 0 0), .int x1, .ref (ad 12 0)] D cy n0 ad nT nO σ (f_L_bend σ x1) := by
  intro r0 h0
  refine vx_ofWH (cc := cL_bend) (maxL := 4) (ret := (some .int)) (hh := [(0, 9, 12, 21)]) (by decide +kernel) rfl ?_
  intro p e s m args below meth c s₁ B hml hv
  have htab : c.exceptionTable.toList = tableOf [(0, 9, 12, 21)] := vx_table (x := yL_bend) (y := yL_bend) B (atoms_spec (ws := (wh yL_bend cL_bend 4 (some .int) [(0, 9, 12, 21)])) B.pre _ List.mem_cons_self)
  obtain ⟨C0, hh, hR, rfl⟩ := ent B hml hst hv
  rw [lg_entry_eq]
  have hl := lv_entry ([.ref (ad 0 0), .int x1, .ref (ad 12 0)]) (n := 4) (Nat.le_of_ble_eq_true rfl)
  generalize (lg_sl ([.ref (ad 0 0), .int x1, .ref (ad 12 0)]) ++ List.replicate (4 - (lg_sl ([.ref (ad 0 0), .int x1, .ref (ad 12 0)])).length) Slot.unset).toArray = ls at hl ⊢
  have hl : lv_has ls 4 [(0, .ref (ad 0 0)), (1, .int x1), (2, .ref (ad 12 0))] := hl
  refine (show Sm (QH below _ s D cy n0 ad 1 6) (f_L_bend σ x1) p l e rmL_bend s m _ below meth c s.heap [] 0 0 (F0 m 0 ls []) from ?_) r0 h0
  unfold f_L_bend
  refine s_aload_n C0 dL_bend_0 rfl (lv_at hl 2 rfl) ?_
  refine s_iconst (v := 0) C0 dL_bend_1 (by decide) ?_
  refine s_aload_n C0 dL_bend_2 rfl (lv_at hl 0 rfl) ?_
  refine s_iload_n C0 dL_bend_3 rfl (lv_at hl 1 rfl) ?_
  obtain ⟨q, hq, -⟩ := wd_get (ad := ad) (cy := cy) (σ := σ) (nT := nT) (nO := nO) (rl_b (r := (0, 0)) (by decide))
  refine run_x (vv := vI) (As := .ref (ad 0 0) :: [.int x1]) (rest := [.int 0, .ref (ad 12 0)]) hh (fun r ho => vx_runV (As := [.int x1]) (rest := [.int 0, .ref (ad 12 0)]) C0.1 (c_X3_bend C0.2.2.2.2.2.2 σ x1 r ho) (qc85 C0.1.2.2.2.2 ⟨Nat.le_of_ble_eq_true rfl, Nat.le_of_ble_eq_true rfl⟩) ⟨Pw_blind, va_recv C0.2.2.1 hh.1 (q := (RX3, TX3, 6)) (ci := 3) rfl hq, fun U hU hW => ⟨rfl, hh.pw C0 U hU hW⟩⟩ rfl rfl hl.1 rfl (lv_room (Nat.le_of_ble_eq_true rfl)) dL_bend_4 ⟨Nat.le_of_ble_eq_true rfl, Nat.le_of_ble_eq_true rfl⟩) (fun r x H locs cel q9 hx hh hce hcv hcl => ?_) (fun r1 H locs _ hh => ?_)
  · by_cases e0 : r.1 = 1
    · rw [if_pos e0] at hx; cases hx; rw [e0] at hcl
      refine h_catch C0 [] ⟨0, 9, 12, 21⟩ [] (by rw [htab]; rfl) (fun _ h => nomatch h) (by decide) (by decide) w400 w402 hce hcv hcl ?_
      refine lv_astore_n (lv' := [(3, .ref q9), (0, .ref (ad 0 0)), (1, .int x1), (2, .ref (ad 12 0))]) C0.1.1 C0.1.2.1 dL_bend_12 rfl hl (by decide) rfl (fun ls hl => ?_)
      refine lv_iconst (v := 1) C0.1.1 C0.1.2.1 dL_bend_13 (by decide) ?_
      exact h_ret C0 AdX.rf hh hR (Nat.le_of_ble_eq_true rfl) (Nat.le_of_ble_eq_true rfl) dL_bend_14
    rw [if_neg e0] at hx
    cases hx
  · have hl : lv_has ls 4 [(0, .ref (ad 0 0)), (1, .int x1), (2, .ref (ad 12 0))] := by exact hl
    refine s_i2l C0 dL_bend_7 rfl ?_
    refine s_last C0 hh dL_bend_8 (fun H locs hh => ?_)
    refine s_goto (tgt := 15) C0 dL_bend_9 (by decide) ?_
    refine s_iconst (v := 0) C0 dL_bend_15 (by decide) ?_
    intro r h; cases h; exact h_ret C0 AdX.rf hh hR (Nat.le_of_ble_eq_true rfl) (Nat.le_of_ble_eq_true rfl) dL_bend_16
theorem qc86 {R : Room} {s : State} {args : Array Value} (ht : ∀ w ∈ allw, w.before args s = true) (hR : (rmX3_temper).frames + 1 ≤ R.frames ∧ 8 + (4 + 11) + (rmX3_temper).locals ≤ R.locals) : CallW R s args RL RX3 74 yX3_temper cX3_temper 4 (some .int) (wm yX3_temper cX3_temper 4 (some .int)) rmX3_temper 3 18 2 := cwV 2 ht (gd_of (fun _ h => h) _ (mV w462 w464 w465 w64 w463)) rfl rfl rfl (by decide +kernel) hR
def rmL_temper : Room := { frames := 8, cells := 3, slots := 18, locals := 135 }
def f_L_temper (σ : Sg) (x1 : Int32) (x2 : Int32) : Option (Int32 × Sg) :=
  bx (f_X3_temper σ x1 x2) (fun r1 => (some (0, svo r1.2 (r1.1 : Int32).toInt64))) (fun x => (if x.1 = 1 then some (1, x.2) else (if x.1 = 2 then some (2, x.2) else (if x.1 = 4 then some (3, x.2) else none))))
set_option maxRecDepth 100000 in
set_option maxHeartbeats 8000000 in
theorem c_L_temper (hst : l.stackTraces = false) (σ : Sg) (x1 : Int32) (x2 : Int32) : CtH l yL_temper (wh yL_temper cL_temper 5 (some .int) [(0, 10, 13, 21), (0, 10, 17, 13), (0, 10, 21, 23)]) rmL_temper 3 18 [.ref (ad 0 0), .int x1, .int x2, .ref (ad 12 0)] D cy n0 ad nT nO σ (f_L_temper σ x1 x2) := by
  intro r0 h0
  refine vx_ofWH (cc := cL_temper) (maxL := 5) (ret := (some .int)) (hh := [(0, 10, 13, 21), (0, 10, 17, 13), (0, 10, 21, 23)]) (by decide +kernel) rfl ?_
  intro p e s m args below meth c s₁ B hml hv
  have htab : c.exceptionTable.toList = tableOf [(0, 10, 13, 21), (0, 10, 17, 13), (0, 10, 21, 23)] := vx_table (x := yL_temper) (y := yL_temper) B (atoms_spec (ws := (wh yL_temper cL_temper 5 (some .int) [(0, 10, 13, 21), (0, 10, 17, 13), (0, 10, 21, 23)])) B.pre _ List.mem_cons_self)
  obtain ⟨C0, hh, hR, rfl⟩ := ent B hml hst hv
  rw [lg_entry_eq]
  have hl := lv_entry ([.ref (ad 0 0), .int x1, .int x2, .ref (ad 12 0)]) (n := 5) (Nat.le_of_ble_eq_true rfl)
  generalize (lg_sl ([.ref (ad 0 0), .int x1, .int x2, .ref (ad 12 0)]) ++ List.replicate (5 - (lg_sl ([.ref (ad 0 0), .int x1, .int x2, .ref (ad 12 0)])).length) Slot.unset).toArray = ls at hl ⊢
  have hl : lv_has ls 5 [(0, .ref (ad 0 0)), (1, .int x1), (2, .int x2), (3, .ref (ad 12 0))] := hl
  refine (show Sm (QH below _ s D cy n0 ad 3 18) (f_L_temper σ x1 x2) p l e rmL_temper s m _ below meth c s.heap [] 0 0 (F0 m 0 ls []) from ?_) r0 h0
  unfold f_L_temper
  refine s_aload_n C0 dL_temper_0 rfl (lv_at hl 3 rfl) ?_
  refine s_iconst (v := 0) C0 dL_temper_1 (by decide) ?_
  refine s_aload_n C0 dL_temper_2 rfl (lv_at hl 0 rfl) ?_
  refine s_iload_n C0 dL_temper_3 rfl (lv_at hl 1 rfl) ?_
  refine s_iload_n C0 dL_temper_4 rfl (lv_at hl 2 rfl) ?_
  obtain ⟨q, hq, -⟩ := wd_get (ad := ad) (cy := cy) (σ := σ) (nT := nT) (nO := nO) (rl_b (r := (0, 0)) (by decide))
  refine run_x (vv := vI) (As := .ref (ad 0 0) :: [.int x1, .int x2]) (rest := [.int 0, .ref (ad 12 0)]) hh (fun r ho => vx_runV (As := [.int x1, .int x2]) (rest := [.int 0, .ref (ad 12 0)]) C0.1 (c_X3_temper C0.2.2.2.2.2.2 σ x1 x2 r ho) (qc86 C0.1.2.2.2.2 ⟨Nat.le_of_ble_eq_true rfl, Nat.le_of_ble_eq_true rfl⟩) ⟨Pw_blind, va_recv C0.2.2.1 hh.1 (q := (RX3, TX3, 6)) (ci := 3) rfl hq, fun U hU hW => ⟨rfl, hh.pw C0 U hU hW⟩⟩ rfl rfl hl.1 rfl (lv_room (Nat.le_of_ble_eq_true rfl)) dL_temper_5 ⟨Nat.le_of_ble_eq_true rfl, Nat.le_of_ble_eq_true rfl⟩) (fun r x H locs cel q9 hx hh hce hcv hcl => ?_) (fun r1 H locs _ hh => ?_)
  · by_cases e0 : r.1 = 1
    · rw [if_pos e0] at hx; cases hx; rw [e0] at hcl
      refine h_catch C0 [] ⟨0, 10, 13, 21⟩ [⟨0, 10, 17, 13⟩, ⟨0, 10, 21, 23⟩] (by rw [htab]; rfl) (fun _ h => nomatch h) (by decide) (by decide) w400 w402 hce hcv hcl ?_
      refine lv_astore (lv' := [(4, .ref q9), (0, .ref (ad 0 0)), (1, .int x1), (2, .int x2), (3, .ref (ad 12 0))]) C0.1.1 C0.1.2.1 dL_temper_13 hl (by decide) rfl (fun ls hl => ?_)
      refine lv_iconst (v := 1) C0.1.1 C0.1.2.1 dL_temper_15 (by decide) ?_
      exact h_ret C0 AdX.rf hh hR (Nat.le_of_ble_eq_true rfl) (Nat.le_of_ble_eq_true rfl) dL_temper_16
    rw [if_neg e0] at hx
    by_cases e1 : r.1 = 2
    · rw [if_pos e1] at hx; cases hx; rw [e1] at hcl
      refine h_catch C0 [⟨0, 10, 13, 21⟩] ⟨0, 10, 17, 13⟩ [⟨0, 10, 21, 23⟩] (by rw [htab]; rfl) (fun z hz => by
        rcases List.mem_cons.mp hz with rfl | hz
        · exact ⟨1, by decide, w400, by decide⟩
        exact absurd hz List.not_mem_nil) (by decide) (by decide) w392 w394 hce hcv hcl ?_
      refine lv_astore (lv' := [(4, .ref q9), (0, .ref (ad 0 0)), (1, .int x1), (2, .int x2), (3, .ref (ad 12 0))]) C0.1.1 C0.1.2.1 dL_temper_17 hl (by decide) rfl (fun ls hl => ?_)
      refine lv_iconst (v := 2) C0.1.1 C0.1.2.1 dL_temper_19 (by decide) ?_
      exact h_ret C0 AdX.rf hh hR (Nat.le_of_ble_eq_true rfl) (Nat.le_of_ble_eq_true rfl) dL_temper_20
    rw [if_neg e1] at hx
    by_cases e2 : r.1 = 4
    · rw [if_pos e2] at hx; cases hx; rw [e2] at hcl
      refine h_catch C0 [⟨0, 10, 13, 21⟩, ⟨0, 10, 17, 13⟩] ⟨0, 10, 21, 23⟩ [] (by rw [htab]; rfl) (fun z hz => by
        rcases List.mem_cons.mp hz with rfl | hz
        · exact ⟨1, by decide, w400, by decide⟩
        rcases List.mem_cons.mp hz with rfl | hz
        · exact ⟨2, by decide, w392, by decide⟩
        exact absurd hz List.not_mem_nil) (by decide) (by decide) w401 w403 hce hcv hcl ?_
      refine lv_astore (lv' := [(4, .ref q9), (0, .ref (ad 0 0)), (1, .int x1), (2, .int x2), (3, .ref (ad 12 0))]) C0.1.1 C0.1.2.1 dL_temper_21 hl (by decide) rfl (fun ls hl => ?_)
      refine lv_iconst (v := 3) C0.1.1 C0.1.2.1 dL_temper_23 (by decide) ?_
      exact h_ret C0 AdX.rf hh hR (Nat.le_of_ble_eq_true rfl) (Nat.le_of_ble_eq_true rfl) dL_temper_24
    rw [if_neg e2] at hx
    cases hx
  · have hl : lv_has ls 5 [(0, .ref (ad 0 0)), (1, .int x1), (2, .int x2), (3, .ref (ad 12 0))] := by exact hl
    refine s_i2l C0 dL_temper_8 rfl ?_
    refine s_last C0 hh dL_temper_9 (fun H locs hh => ?_)
    refine s_goto (tgt := 25) C0 dL_temper_10 (by decide) ?_
    refine s_iconst (v := 0) C0 dL_temper_25 (by decide) ?_
    intro r h; cases h; exact h_ret C0 AdX.rf hh hR (Nat.le_of_ble_eq_true rfl) (Nat.le_of_ble_eq_true rfl) dL_temper_26
theorem qc87 {R : Room} {s : State} {args : Array Value} (ht : ∀ w ∈ allw, w.before args s = true) (hR : (rmX3_straighten).frames + 1 ≤ R.frames ∧ 8 + (4 + 11) + (rmX3_straighten).locals ≤ R.locals) : CallW R s args RL RX3 77 yX3_straighten cX3_straighten 4 (some .int) (wm yX3_straighten cX3_straighten 4 (some .int)) rmX3_straighten 3 18 2 := cwV 2 ht (gd_of (fun _ h => h) _ (mV w466 w468 w469 w64 w467)) rfl rfl rfl (by decide +kernel) hR
def rmL_straighten : Room := { frames := 8, cells := 3, slots := 18, locals := 135 }
def f_L_straighten (σ : Sg) (x1 : Int32) (x2 : Int32) : Option (Int32 × Sg) :=
  bx (f_X3_straighten σ x1 x2) (fun r1 => (some (0, svo r1.2 (r1.1 : Int32).toInt64))) (fun x => (if x.1 = 1 then some (1, x.2) else (if x.1 = 2 then some (2, x.2) else (if x.1 = 4 then some (3, x.2) else none))))
set_option maxRecDepth 100000 in
set_option maxHeartbeats 8000000 in
theorem c_L_straighten (hst : l.stackTraces = false) (σ : Sg) (x1 : Int32) (x2 : Int32) : CtH l yL_straighten (wh yL_straighten cL_straighten 5 (some .int) [(0, 10, 13, 21), (0, 10, 17, 13), (0, 10, 21, 23)]) rmL_straighten 3 18 [.ref (ad 0 0), .int x1, .int x2, .ref (ad 12 0)] D cy n0 ad nT nO σ (f_L_straighten σ x1 x2) := by
  intro r0 h0
  refine vx_ofWH (cc := cL_straighten) (maxL := 5) (ret := (some .int)) (hh := [(0, 10, 13, 21), (0, 10, 17, 13), (0, 10, 21, 23)]) (by decide +kernel) rfl ?_
  intro p e s m args below meth c s₁ B hml hv
  have htab : c.exceptionTable.toList = tableOf [(0, 10, 13, 21), (0, 10, 17, 13), (0, 10, 21, 23)] := vx_table (x := yL_straighten) (y := yL_straighten) B (atoms_spec (ws := (wh yL_straighten cL_straighten 5 (some .int) [(0, 10, 13, 21), (0, 10, 17, 13), (0, 10, 21, 23)])) B.pre _ List.mem_cons_self)
  obtain ⟨C0, hh, hR, rfl⟩ := ent B hml hst hv
  rw [lg_entry_eq]
  have hl := lv_entry ([.ref (ad 0 0), .int x1, .int x2, .ref (ad 12 0)]) (n := 5) (Nat.le_of_ble_eq_true rfl)
  generalize (lg_sl ([.ref (ad 0 0), .int x1, .int x2, .ref (ad 12 0)]) ++ List.replicate (5 - (lg_sl ([.ref (ad 0 0), .int x1, .int x2, .ref (ad 12 0)])).length) Slot.unset).toArray = ls at hl ⊢
  have hl : lv_has ls 5 [(0, .ref (ad 0 0)), (1, .int x1), (2, .int x2), (3, .ref (ad 12 0))] := hl
  refine (show Sm (QH below _ s D cy n0 ad 3 18) (f_L_straighten σ x1 x2) p l e rmL_straighten s m _ below meth c s.heap [] 0 0 (F0 m 0 ls []) from ?_) r0 h0
  unfold f_L_straighten
  refine s_aload_n C0 dL_straighten_0 rfl (lv_at hl 3 rfl) ?_
  refine s_iconst (v := 0) C0 dL_straighten_1 (by decide) ?_
  refine s_aload_n C0 dL_straighten_2 rfl (lv_at hl 0 rfl) ?_
  refine s_iload_n C0 dL_straighten_3 rfl (lv_at hl 1 rfl) ?_
  refine s_iload_n C0 dL_straighten_4 rfl (lv_at hl 2 rfl) ?_
  obtain ⟨q, hq, -⟩ := wd_get (ad := ad) (cy := cy) (σ := σ) (nT := nT) (nO := nO) (rl_b (r := (0, 0)) (by decide))
  refine run_x (vv := vI) (As := .ref (ad 0 0) :: [.int x1, .int x2]) (rest := [.int 0, .ref (ad 12 0)]) hh (fun r ho => vx_runV (As := [.int x1, .int x2]) (rest := [.int 0, .ref (ad 12 0)]) C0.1 (c_X3_straighten C0.2.2.2.2.2.2 σ x1 x2 r ho) (qc87 C0.1.2.2.2.2 ⟨Nat.le_of_ble_eq_true rfl, Nat.le_of_ble_eq_true rfl⟩) ⟨Pw_blind, va_recv C0.2.2.1 hh.1 (q := (RX3, TX3, 6)) (ci := 3) rfl hq, fun U hU hW => ⟨rfl, hh.pw C0 U hU hW⟩⟩ rfl rfl hl.1 rfl (lv_room (Nat.le_of_ble_eq_true rfl)) dL_straighten_5 ⟨Nat.le_of_ble_eq_true rfl, Nat.le_of_ble_eq_true rfl⟩) (fun r x H locs cel q9 hx hh hce hcv hcl => ?_) (fun r1 H locs _ hh => ?_)
  · by_cases e0 : r.1 = 1
    · rw [if_pos e0] at hx; cases hx; rw [e0] at hcl
      refine h_catch C0 [] ⟨0, 10, 13, 21⟩ [⟨0, 10, 17, 13⟩, ⟨0, 10, 21, 23⟩] (by rw [htab]; rfl) (fun _ h => nomatch h) (by decide) (by decide) w400 w402 hce hcv hcl ?_
      refine lv_astore (lv' := [(4, .ref q9), (0, .ref (ad 0 0)), (1, .int x1), (2, .int x2), (3, .ref (ad 12 0))]) C0.1.1 C0.1.2.1 dL_straighten_13 hl (by decide) rfl (fun ls hl => ?_)
      refine lv_iconst (v := 1) C0.1.1 C0.1.2.1 dL_straighten_15 (by decide) ?_
      exact h_ret C0 AdX.rf hh hR (Nat.le_of_ble_eq_true rfl) (Nat.le_of_ble_eq_true rfl) dL_straighten_16
    rw [if_neg e0] at hx
    by_cases e1 : r.1 = 2
    · rw [if_pos e1] at hx; cases hx; rw [e1] at hcl
      refine h_catch C0 [⟨0, 10, 13, 21⟩] ⟨0, 10, 17, 13⟩ [⟨0, 10, 21, 23⟩] (by rw [htab]; rfl) (fun z hz => by
        rcases List.mem_cons.mp hz with rfl | hz
        · exact ⟨1, by decide, w400, by decide⟩
        exact absurd hz List.not_mem_nil) (by decide) (by decide) w392 w394 hce hcv hcl ?_
      refine lv_astore (lv' := [(4, .ref q9), (0, .ref (ad 0 0)), (1, .int x1), (2, .int x2), (3, .ref (ad 12 0))]) C0.1.1 C0.1.2.1 dL_straighten_17 hl (by decide) rfl (fun ls hl => ?_)
      refine lv_iconst (v := 2) C0.1.1 C0.1.2.1 dL_straighten_19 (by decide) ?_
      exact h_ret C0 AdX.rf hh hR (Nat.le_of_ble_eq_true rfl) (Nat.le_of_ble_eq_true rfl) dL_straighten_20
    rw [if_neg e1] at hx
    by_cases e2 : r.1 = 4
    · rw [if_pos e2] at hx; cases hx; rw [e2] at hcl
      refine h_catch C0 [⟨0, 10, 13, 21⟩, ⟨0, 10, 17, 13⟩] ⟨0, 10, 21, 23⟩ [] (by rw [htab]; rfl) (fun z hz => by
        rcases List.mem_cons.mp hz with rfl | hz
        · exact ⟨1, by decide, w400, by decide⟩
        rcases List.mem_cons.mp hz with rfl | hz
        · exact ⟨2, by decide, w392, by decide⟩
        exact absurd hz List.not_mem_nil) (by decide) (by decide) w401 w403 hce hcv hcl ?_
      refine lv_astore (lv' := [(4, .ref q9), (0, .ref (ad 0 0)), (1, .int x1), (2, .int x2), (3, .ref (ad 12 0))]) C0.1.1 C0.1.2.1 dL_straighten_21 hl (by decide) rfl (fun ls hl => ?_)
      refine lv_iconst (v := 3) C0.1.1 C0.1.2.1 dL_straighten_23 (by decide) ?_
      exact h_ret C0 AdX.rf hh hR (Nat.le_of_ble_eq_true rfl) (Nat.le_of_ble_eq_true rfl) dL_straighten_24
    rw [if_neg e2] at hx
    cases hx
  · have hl : lv_has ls 5 [(0, .ref (ad 0 0)), (1, .int x1), (2, .int x2), (3, .ref (ad 12 0))] := by exact hl
    refine s_i2l C0 dL_straighten_8 rfl ?_
    refine s_last C0 hh dL_straighten_9 (fun H locs hh => ?_)
    refine s_goto (tgt := 25) C0 dL_straighten_10 (by decide) ?_
    refine s_iconst (v := 0) C0 dL_straighten_25 (by decide) ?_
    intro r h; cases h; exact h_ret C0 AdX.rf hh hR (Nat.le_of_ble_eq_true rfl) (Nat.le_of_ble_eq_true rfl) dL_straighten_26
theorem qc88 {R : Room} {s : State} {args : Array Value} (ht : ∀ w ∈ allw, w.before args s = true) (hR : (rmX3_seed).frames + 1 ≤ R.frames ∧ 8 + (3 + 11) + (rmX3_seed).locals ≤ R.locals) : CallW R s args RL RX3 80 yX3_seed cX3_seed 3 (some .int) (wm yX3_seed cX3_seed 3 (some .int)) rmX3_seed 1 6 1 := cwV 1 ht (gd_of (fun _ h => h) _ (mV w470 w472 w473 w64 w471)) rfl rfl rfl (by decide +kernel) hR
def rmL_seed : Room := { frames := 8, cells := 1, slots := 6, locals := 134 }
def f_L_seed (σ : Sg) (x1 : Int32) : Option (Int32 × Sg) :=
  bx (f_X3_seed σ x1) (fun r1 => (some (0, svo r1.2 (r1.1 : Int32).toInt64))) (fun x => (if x.1 = 2 then some (1, x.2) else none))
set_option maxRecDepth 100000 in
set_option maxHeartbeats 8000000 in
theorem c_L_seed (hst : l.stackTraces = false) (σ : Sg) (x1 : Int32) : CtH l yL_seed (wh yL_seed cL_seed 4 (some .int) [(0, 9, 12, 13)]) rmL_seed 1 6 [.ref (ad 0 0), .int x1, .ref (ad 12 0)] D cy n0 ad nT nO σ (f_L_seed σ x1) := by
  intro r0 h0
  refine vx_ofWH (cc := cL_seed) (maxL := 4) (ret := (some .int)) (hh := [(0, 9, 12, 13)]) (by decide +kernel) rfl ?_
  intro p e s m args below meth c s₁ B hml hv
  have htab : c.exceptionTable.toList = tableOf [(0, 9, 12, 13)] := vx_table (x := yL_seed) (y := yL_seed) B (atoms_spec (ws := (wh yL_seed cL_seed 4 (some .int) [(0, 9, 12, 13)])) B.pre _ List.mem_cons_self)
  obtain ⟨C0, hh, hR, rfl⟩ := ent B hml hst hv
  rw [lg_entry_eq]
  have hl := lv_entry ([.ref (ad 0 0), .int x1, .ref (ad 12 0)]) (n := 4) (Nat.le_of_ble_eq_true rfl)
  generalize (lg_sl ([.ref (ad 0 0), .int x1, .ref (ad 12 0)]) ++ List.replicate (4 - (lg_sl ([.ref (ad 0 0), .int x1, .ref (ad 12 0)])).length) Slot.unset).toArray = ls at hl ⊢
  have hl : lv_has ls 4 [(0, .ref (ad 0 0)), (1, .int x1), (2, .ref (ad 12 0))] := hl
  refine (show Sm (QH below _ s D cy n0 ad 1 6) (f_L_seed σ x1) p l e rmL_seed s m _ below meth c s.heap [] 0 0 (F0 m 0 ls []) from ?_) r0 h0
  unfold f_L_seed
  refine s_aload_n C0 dL_seed_0 rfl (lv_at hl 2 rfl) ?_
  refine s_iconst (v := 0) C0 dL_seed_1 (by decide) ?_
  refine s_aload_n C0 dL_seed_2 rfl (lv_at hl 0 rfl) ?_
  refine s_iload_n C0 dL_seed_3 rfl (lv_at hl 1 rfl) ?_
  obtain ⟨q, hq, -⟩ := wd_get (ad := ad) (cy := cy) (σ := σ) (nT := nT) (nO := nO) (rl_b (r := (0, 0)) (by decide))
  refine run_x (vv := vI) (As := .ref (ad 0 0) :: [.int x1]) (rest := [.int 0, .ref (ad 12 0)]) hh (fun r ho => vx_runV (As := [.int x1]) (rest := [.int 0, .ref (ad 12 0)]) C0.1 (c_X3_seed C0.2.2.2.2.2.2 σ x1 r ho) (qc88 C0.1.2.2.2.2 ⟨Nat.le_of_ble_eq_true rfl, Nat.le_of_ble_eq_true rfl⟩) ⟨Pw_blind, va_recv C0.2.2.1 hh.1 (q := (RX3, TX3, 6)) (ci := 3) rfl hq, fun U hU hW => ⟨rfl, hh.pw C0 U hU hW⟩⟩ rfl rfl hl.1 rfl (lv_room (Nat.le_of_ble_eq_true rfl)) dL_seed_4 ⟨Nat.le_of_ble_eq_true rfl, Nat.le_of_ble_eq_true rfl⟩) (fun r x H locs cel q9 hx hh hce hcv hcl => ?_) (fun r1 H locs _ hh => ?_)
  · by_cases e0 : r.1 = 2
    · rw [if_pos e0] at hx; cases hx; rw [e0] at hcl
      refine h_catch C0 [] ⟨0, 9, 12, 13⟩ [] (by rw [htab]; rfl) (fun _ h => nomatch h) (by decide) (by decide) w392 w394 hce hcv hcl ?_
      refine lv_astore_n (lv' := [(3, .ref q9), (0, .ref (ad 0 0)), (1, .int x1), (2, .ref (ad 12 0))]) C0.1.1 C0.1.2.1 dL_seed_12 rfl hl (by decide) rfl (fun ls hl => ?_)
      refine lv_iconst (v := 1) C0.1.1 C0.1.2.1 dL_seed_13 (by decide) ?_
      exact h_ret C0 AdX.rf hh hR (Nat.le_of_ble_eq_true rfl) (Nat.le_of_ble_eq_true rfl) dL_seed_14
    rw [if_neg e0] at hx
    cases hx
  · have hl : lv_has ls 4 [(0, .ref (ad 0 0)), (1, .int x1), (2, .ref (ad 12 0))] := by exact hl
    refine s_i2l C0 dL_seed_7 rfl ?_
    refine s_last C0 hh dL_seed_8 (fun H locs hh => ?_)
    refine s_goto (tgt := 15) C0 dL_seed_9 (by decide) ?_
    refine s_iconst (v := 0) C0 dL_seed_15 (by decide) ?_
    intro r h; cases h; exact h_ret C0 AdX.rf hh hR (Nat.le_of_ble_eq_true rfl) (Nat.le_of_ble_eq_true rfl) dL_seed_16
theorem qc89 {R : Room} {s : State} {args : Array Value} (ht : ∀ w ∈ allw, w.before args s = true) (hR : (rmX3_strokes).frames + 1 ≤ R.frames ∧ 8 + (5 + 11) + (rmX3_strokes).locals ≤ R.locals) : CallW R s args RL RX3 83 yX3_strokes cX3_strokes 5 (some .int) (wm yX3_strokes cX3_strokes 5 (some .int)) rmX3_strokes 4 24 3 := cwV 3 ht (gd_of (fun _ h => h) _ (mV w474 w476 w477 w64 w475)) rfl rfl rfl (by decide +kernel) hR
def rmL_strokes : Room := { frames := 8, cells := 4, slots := 24, locals := 136 }
def f_L_strokes (σ : Sg) (x1 : Int32) (x2 : Int32) (x3 : Int32) : Option (Int32 × Sg) :=
  bx (f_X3_strokes σ x1 x2 x3) (fun r1 => (some (0, svo r1.2 (r1.1 : Int32).toInt64))) (fun x => (if x.1 = 1 then some (1, x.2) else (if x.1 = 2 then some (2, x.2) else (if x.1 = 4 then some (3, x.2) else none))))
set_option maxRecDepth 100000 in
set_option maxHeartbeats 8000000 in
theorem c_L_strokes (hst : l.stackTraces = false) (σ : Sg) (x1 : Int32) (x2 : Int32) (x3 : Int32) : CtH l yL_strokes (wh yL_strokes cL_strokes 6 (some .int) [(0, 12, 15, 21), (0, 12, 19, 13), (0, 12, 23, 23)]) rmL_strokes 4 24 [.ref (ad 0 0), .int x1, .int x2, .int x3, .ref (ad 12 0)] D cy n0 ad nT nO σ (f_L_strokes σ x1 x2 x3) := by
  intro r0 h0
  refine vx_ofWH (cc := cL_strokes) (maxL := 6) (ret := (some .int)) (hh := [(0, 12, 15, 21), (0, 12, 19, 13), (0, 12, 23, 23)]) (by decide +kernel) rfl ?_
  intro p e s m args below meth c s₁ B hml hv
  have htab : c.exceptionTable.toList = tableOf [(0, 12, 15, 21), (0, 12, 19, 13), (0, 12, 23, 23)] := vx_table (x := yL_strokes) (y := yL_strokes) B (atoms_spec (ws := (wh yL_strokes cL_strokes 6 (some .int) [(0, 12, 15, 21), (0, 12, 19, 13), (0, 12, 23, 23)])) B.pre _ List.mem_cons_self)
  obtain ⟨C0, hh, hR, rfl⟩ := ent B hml hst hv
  rw [lg_entry_eq]
  have hl := lv_entry ([.ref (ad 0 0), .int x1, .int x2, .int x3, .ref (ad 12 0)]) (n := 6) (Nat.le_of_ble_eq_true rfl)
  generalize (lg_sl ([.ref (ad 0 0), .int x1, .int x2, .int x3, .ref (ad 12 0)]) ++ List.replicate (6 - (lg_sl ([.ref (ad 0 0), .int x1, .int x2, .int x3, .ref (ad 12 0)])).length) Slot.unset).toArray = ls at hl ⊢
  have hl : lv_has ls 6 [(0, .ref (ad 0 0)), (1, .int x1), (2, .int x2), (3, .int x3), (4, .ref (ad 12 0))] := hl
  refine (show Sm (QH below _ s D cy n0 ad 4 24) (f_L_strokes σ x1 x2 x3) p l e rmL_strokes s m _ below meth c s.heap [] 0 0 (F0 m 0 ls []) from ?_) r0 h0
  unfold f_L_strokes
  refine s_aload C0 dL_strokes_0 (lv_at hl 4 rfl) ?_
  refine s_iconst (v := 0) C0 dL_strokes_2 (by decide) ?_
  refine s_aload_n C0 dL_strokes_3 rfl (lv_at hl 0 rfl) ?_
  refine s_iload_n C0 dL_strokes_4 rfl (lv_at hl 1 rfl) ?_
  refine s_iload_n C0 dL_strokes_5 rfl (lv_at hl 2 rfl) ?_
  refine s_iload_n C0 dL_strokes_6 rfl (lv_at hl 3 rfl) ?_
  obtain ⟨q, hq, -⟩ := wd_get (ad := ad) (cy := cy) (σ := σ) (nT := nT) (nO := nO) (rl_b (r := (0, 0)) (by decide))
  refine run_x (vv := vI) (As := .ref (ad 0 0) :: [.int x1, .int x2, .int x3]) (rest := [.int 0, .ref (ad 12 0)]) hh (fun r ho => vx_runV (As := [.int x1, .int x2, .int x3]) (rest := [.int 0, .ref (ad 12 0)]) C0.1 (c_X3_strokes C0.2.2.2.2.2.2 σ x1 x2 x3 r ho) (qc89 C0.1.2.2.2.2 ⟨Nat.le_of_ble_eq_true rfl, Nat.le_of_ble_eq_true rfl⟩) ⟨Pw_blind, va_recv C0.2.2.1 hh.1 (q := (RX3, TX3, 6)) (ci := 3) rfl hq, fun U hU hW => ⟨rfl, hh.pw C0 U hU hW⟩⟩ rfl rfl hl.1 rfl (lv_room (Nat.le_of_ble_eq_true rfl)) dL_strokes_7 ⟨Nat.le_of_ble_eq_true rfl, Nat.le_of_ble_eq_true rfl⟩) (fun r x H locs cel q9 hx hh hce hcv hcl => ?_) (fun r1 H locs _ hh => ?_)
  · by_cases e0 : r.1 = 1
    · rw [if_pos e0] at hx; cases hx; rw [e0] at hcl
      refine h_catch C0 [] ⟨0, 12, 15, 21⟩ [⟨0, 12, 19, 13⟩, ⟨0, 12, 23, 23⟩] (by rw [htab]; rfl) (fun _ h => nomatch h) (by decide) (by decide) w400 w402 hce hcv hcl ?_
      refine lv_astore (lv' := [(5, .ref q9), (0, .ref (ad 0 0)), (1, .int x1), (2, .int x2), (3, .int x3), (4, .ref (ad 12 0))]) C0.1.1 C0.1.2.1 dL_strokes_15 hl (by decide) rfl (fun ls hl => ?_)
      refine lv_iconst (v := 1) C0.1.1 C0.1.2.1 dL_strokes_17 (by decide) ?_
      exact h_ret C0 AdX.rf hh hR (Nat.le_of_ble_eq_true rfl) (Nat.le_of_ble_eq_true rfl) dL_strokes_18
    rw [if_neg e0] at hx
    by_cases e1 : r.1 = 2
    · rw [if_pos e1] at hx; cases hx; rw [e1] at hcl
      refine h_catch C0 [⟨0, 12, 15, 21⟩] ⟨0, 12, 19, 13⟩ [⟨0, 12, 23, 23⟩] (by rw [htab]; rfl) (fun z hz => by
        rcases List.mem_cons.mp hz with rfl | hz
        · exact ⟨1, by decide, w400, by decide⟩
        exact absurd hz List.not_mem_nil) (by decide) (by decide) w392 w394 hce hcv hcl ?_
      refine lv_astore (lv' := [(5, .ref q9), (0, .ref (ad 0 0)), (1, .int x1), (2, .int x2), (3, .int x3), (4, .ref (ad 12 0))]) C0.1.1 C0.1.2.1 dL_strokes_19 hl (by decide) rfl (fun ls hl => ?_)
      refine lv_iconst (v := 2) C0.1.1 C0.1.2.1 dL_strokes_21 (by decide) ?_
      exact h_ret C0 AdX.rf hh hR (Nat.le_of_ble_eq_true rfl) (Nat.le_of_ble_eq_true rfl) dL_strokes_22
    rw [if_neg e1] at hx
    by_cases e2 : r.1 = 4
    · rw [if_pos e2] at hx; cases hx; rw [e2] at hcl
      refine h_catch C0 [⟨0, 12, 15, 21⟩, ⟨0, 12, 19, 13⟩] ⟨0, 12, 23, 23⟩ [] (by rw [htab]; rfl) (fun z hz => by
        rcases List.mem_cons.mp hz with rfl | hz
        · exact ⟨1, by decide, w400, by decide⟩
        rcases List.mem_cons.mp hz with rfl | hz
        · exact ⟨2, by decide, w392, by decide⟩
        exact absurd hz List.not_mem_nil) (by decide) (by decide) w401 w403 hce hcv hcl ?_
      refine lv_astore (lv' := [(5, .ref q9), (0, .ref (ad 0 0)), (1, .int x1), (2, .int x2), (3, .int x3), (4, .ref (ad 12 0))]) C0.1.1 C0.1.2.1 dL_strokes_23 hl (by decide) rfl (fun ls hl => ?_)
      refine lv_iconst (v := 3) C0.1.1 C0.1.2.1 dL_strokes_25 (by decide) ?_
      exact h_ret C0 AdX.rf hh hR (Nat.le_of_ble_eq_true rfl) (Nat.le_of_ble_eq_true rfl) dL_strokes_26
    rw [if_neg e2] at hx
    cases hx
  · have hl : lv_has ls 6 [(0, .ref (ad 0 0)), (1, .int x1), (2, .int x2), (3, .int x3), (4, .ref (ad 12 0))] := by exact hl
    refine s_i2l C0 dL_strokes_10 rfl ?_
    refine s_last C0 hh dL_strokes_11 (fun H locs hh => ?_)
    refine s_goto (tgt := 27) C0 dL_strokes_12 (by decide) ?_
    refine s_iconst (v := 0) C0 dL_strokes_27 (by decide) ?_
    intro r h; cases h; exact h_ret C0 AdX.rf hh hR (Nat.le_of_ble_eq_true rfl) (Nat.le_of_ble_eq_true rfl) dL_strokes_28
theorem qc90 {R : Room} {s : State} {args : Array Value} (ht : ∀ w ∈ allw, w.before args s = true) (hR : (rmX3_chips).frames + 1 ≤ R.frames ∧ 8 + (2 + 11) + (rmX3_chips).locals ≤ R.locals) : CallW R s args RL RX3 87 yX3_chips cX3_chips 2 (some .int) (wm yX3_chips cX3_chips 2 (some .int)) rmX3_chips 1 6 1 := cwV 1 ht (gd_of (fun _ h => h) _ (mV w478 w480 w481 w64 w479)) rfl rfl rfl (by decide +kernel) hR
def rmL_chips : Room := { frames := 8, cells := 1, slots := 6, locals := 132 }
def f_L_chips (σ : Sg) (x1 : Int32) : Option (Int32 × Sg) :=
  bx (f_X3_chips σ x1) (fun r1 => (some (0, svo r1.2 (r1.1 : Int32).toInt64))) (fun x => (if x.1 = 1 then some (1, x.2) else none))
set_option maxRecDepth 100000 in
set_option maxHeartbeats 8000000 in
theorem c_L_chips (hst : l.stackTraces = false) (σ : Sg) (x1 : Int32) : CtH l yL_chips (wh yL_chips cL_chips 4 (some .int) [(0, 9, 12, 21)]) rmL_chips 1 6 [.ref (ad 0 0), .int x1, .ref (ad 12 0)] D cy n0 ad nT nO σ (f_L_chips σ x1) := by
  intro r0 h0
  refine vx_ofWH (cc := cL_chips) (maxL := 4) (ret := (some .int)) (hh := [(0, 9, 12, 21)]) (by decide +kernel) rfl ?_
  intro p e s m args below meth c s₁ B hml hv
  have htab : c.exceptionTable.toList = tableOf [(0, 9, 12, 21)] := vx_table (x := yL_chips) (y := yL_chips) B (atoms_spec (ws := (wh yL_chips cL_chips 4 (some .int) [(0, 9, 12, 21)])) B.pre _ List.mem_cons_self)
  obtain ⟨C0, hh, hR, rfl⟩ := ent B hml hst hv
  rw [lg_entry_eq]
  have hl := lv_entry ([.ref (ad 0 0), .int x1, .ref (ad 12 0)]) (n := 4) (Nat.le_of_ble_eq_true rfl)
  generalize (lg_sl ([.ref (ad 0 0), .int x1, .ref (ad 12 0)]) ++ List.replicate (4 - (lg_sl ([.ref (ad 0 0), .int x1, .ref (ad 12 0)])).length) Slot.unset).toArray = ls at hl ⊢
  have hl : lv_has ls 4 [(0, .ref (ad 0 0)), (1, .int x1), (2, .ref (ad 12 0))] := hl
  refine (show Sm (QH below _ s D cy n0 ad 1 6) (f_L_chips σ x1) p l e rmL_chips s m _ below meth c s.heap [] 0 0 (F0 m 0 ls []) from ?_) r0 h0
  unfold f_L_chips
  refine s_aload_n C0 dL_chips_0 rfl (lv_at hl 2 rfl) ?_
  refine s_iconst (v := 0) C0 dL_chips_1 (by decide) ?_
  refine s_aload_n C0 dL_chips_2 rfl (lv_at hl 0 rfl) ?_
  refine s_iload_n C0 dL_chips_3 rfl (lv_at hl 1 rfl) ?_
  obtain ⟨q, hq, -⟩ := wd_get (ad := ad) (cy := cy) (σ := σ) (nT := nT) (nO := nO) (rl_b (r := (0, 0)) (by decide))
  refine run_x (vv := vI) (As := .ref (ad 0 0) :: [.int x1]) (rest := [.int 0, .ref (ad 12 0)]) hh (fun r ho => vx_runV (As := [.int x1]) (rest := [.int 0, .ref (ad 12 0)]) C0.1 (c_X3_chips C0.2.2.2.2.2.2 σ x1 r ho) (qc90 C0.1.2.2.2.2 ⟨Nat.le_of_ble_eq_true rfl, Nat.le_of_ble_eq_true rfl⟩) ⟨Pw_blind, va_recv C0.2.2.1 hh.1 (q := (RX3, TX3, 6)) (ci := 3) rfl hq, fun U hU hW => ⟨rfl, hh.pw C0 U hU hW⟩⟩ rfl rfl hl.1 rfl (lv_room (Nat.le_of_ble_eq_true rfl)) dL_chips_4 ⟨Nat.le_of_ble_eq_true rfl, Nat.le_of_ble_eq_true rfl⟩) (fun r x H locs cel q9 hx hh hce hcv hcl => ?_) (fun r1 H locs _ hh => ?_)
  · by_cases e0 : r.1 = 1
    · rw [if_pos e0] at hx; cases hx; rw [e0] at hcl
      refine h_catch C0 [] ⟨0, 9, 12, 21⟩ [] (by rw [htab]; rfl) (fun _ h => nomatch h) (by decide) (by decide) w400 w402 hce hcv hcl ?_
      refine lv_astore_n (lv' := [(3, .ref q9), (0, .ref (ad 0 0)), (1, .int x1), (2, .ref (ad 12 0))]) C0.1.1 C0.1.2.1 dL_chips_12 rfl hl (by decide) rfl (fun ls hl => ?_)
      refine lv_iconst (v := 1) C0.1.1 C0.1.2.1 dL_chips_13 (by decide) ?_
      exact h_ret C0 AdX.rf hh hR (Nat.le_of_ble_eq_true rfl) (Nat.le_of_ble_eq_true rfl) dL_chips_14
    rw [if_neg e0] at hx
    cases hx
  · have hl : lv_has ls 4 [(0, .ref (ad 0 0)), (1, .int x1), (2, .ref (ad 12 0))] := by exact hl
    refine s_i2l C0 dL_chips_7 rfl ?_
    refine s_last C0 hh dL_chips_8 (fun H locs hh => ?_)
    refine s_goto (tgt := 15) C0 dL_chips_9 (by decide) ?_
    refine s_iconst (v := 0) C0 dL_chips_15 (by decide) ?_
    intro r h; cases h; exact h_ret C0 AdX.rf hh hR (Nat.le_of_ble_eq_true rfl) (Nat.le_of_ble_eq_true rfl) dL_chips_16
theorem qc91 {R : Room} {s : State} {args : Array Value} (ht : ∀ w ∈ allw, w.before args s = true) (hR : (rmX3_brush).frames + 1 ≤ R.frames ∧ 8 + (4 + 11) + (rmX3_brush).locals ≤ R.locals) : CallW R s args RL RX3 90 yX3_brush cX3_brush 4 (some .int) (wm yX3_brush cX3_brush 4 (some .int)) rmX3_brush 1 6 1 := cwV 1 ht (gd_of (fun _ h => h) _ (mV w482 w484 w485 w64 w483)) rfl rfl rfl (by decide +kernel) hR
def rmL_brush : Room := { frames := 8, cells := 1, slots := 6, locals := 134 }
def f_L_brush (σ : Sg) (x1 : Int32) : Option (Int32 × Sg) :=
  bx (f_X3_brush σ x1) (fun r1 => (some (0, svo r1.2 (r1.1 : Int32).toInt64))) (fun x => (if x.1 = 1 then some (1, x.2) else none))
set_option maxRecDepth 100000 in
set_option maxHeartbeats 8000000 in
theorem c_L_brush (hst : l.stackTraces = false) (σ : Sg) (x1 : Int32) : CtH l yL_brush (wh yL_brush cL_brush 4 (some .int) [(0, 9, 12, 21)]) rmL_brush 1 6 [.ref (ad 0 0), .int x1, .ref (ad 12 0)] D cy n0 ad nT nO σ (f_L_brush σ x1) := by
  intro r0 h0
  refine vx_ofWH (cc := cL_brush) (maxL := 4) (ret := (some .int)) (hh := [(0, 9, 12, 21)]) (by decide +kernel) rfl ?_
  intro p e s m args below meth c s₁ B hml hv
  have htab : c.exceptionTable.toList = tableOf [(0, 9, 12, 21)] := vx_table (x := yL_brush) (y := yL_brush) B (atoms_spec (ws := (wh yL_brush cL_brush 4 (some .int) [(0, 9, 12, 21)])) B.pre _ List.mem_cons_self)
  obtain ⟨C0, hh, hR, rfl⟩ := ent B hml hst hv
  rw [lg_entry_eq]
  have hl := lv_entry ([.ref (ad 0 0), .int x1, .ref (ad 12 0)]) (n := 4) (Nat.le_of_ble_eq_true rfl)
  generalize (lg_sl ([.ref (ad 0 0), .int x1, .ref (ad 12 0)]) ++ List.replicate (4 - (lg_sl ([.ref (ad 0 0), .int x1, .ref (ad 12 0)])).length) Slot.unset).toArray = ls at hl ⊢
  have hl : lv_has ls 4 [(0, .ref (ad 0 0)), (1, .int x1), (2, .ref (ad 12 0))] := hl
  refine (show Sm (QH below _ s D cy n0 ad 1 6) (f_L_brush σ x1) p l e rmL_brush s m _ below meth c s.heap [] 0 0 (F0 m 0 ls []) from ?_) r0 h0
  unfold f_L_brush
  refine s_aload_n C0 dL_brush_0 rfl (lv_at hl 2 rfl) ?_
  refine s_iconst (v := 0) C0 dL_brush_1 (by decide) ?_
  refine s_aload_n C0 dL_brush_2 rfl (lv_at hl 0 rfl) ?_
  refine s_iload_n C0 dL_brush_3 rfl (lv_at hl 1 rfl) ?_
  obtain ⟨q, hq, -⟩ := wd_get (ad := ad) (cy := cy) (σ := σ) (nT := nT) (nO := nO) (rl_b (r := (0, 0)) (by decide))
  refine run_x (vv := vI) (As := .ref (ad 0 0) :: [.int x1]) (rest := [.int 0, .ref (ad 12 0)]) hh (fun r ho => vx_runV (As := [.int x1]) (rest := [.int 0, .ref (ad 12 0)]) C0.1 (c_X3_brush C0.2.2.2.2.2.2 σ x1 r ho) (qc91 C0.1.2.2.2.2 ⟨Nat.le_of_ble_eq_true rfl, Nat.le_of_ble_eq_true rfl⟩) ⟨Pw_blind, va_recv C0.2.2.1 hh.1 (q := (RX3, TX3, 6)) (ci := 3) rfl hq, fun U hU hW => ⟨rfl, hh.pw C0 U hU hW⟩⟩ rfl rfl hl.1 rfl (lv_room (Nat.le_of_ble_eq_true rfl)) dL_brush_4 ⟨Nat.le_of_ble_eq_true rfl, Nat.le_of_ble_eq_true rfl⟩) (fun r x H locs cel q9 hx hh hce hcv hcl => ?_) (fun r1 H locs _ hh => ?_)
  · by_cases e0 : r.1 = 1
    · rw [if_pos e0] at hx; cases hx; rw [e0] at hcl
      refine h_catch C0 [] ⟨0, 9, 12, 21⟩ [] (by rw [htab]; rfl) (fun _ h => nomatch h) (by decide) (by decide) w400 w402 hce hcv hcl ?_
      refine lv_astore_n (lv' := [(3, .ref q9), (0, .ref (ad 0 0)), (1, .int x1), (2, .ref (ad 12 0))]) C0.1.1 C0.1.2.1 dL_brush_12 rfl hl (by decide) rfl (fun ls hl => ?_)
      refine lv_iconst (v := 1) C0.1.1 C0.1.2.1 dL_brush_13 (by decide) ?_
      exact h_ret C0 AdX.rf hh hR (Nat.le_of_ble_eq_true rfl) (Nat.le_of_ble_eq_true rfl) dL_brush_14
    rw [if_neg e0] at hx
    cases hx
  · have hl : lv_has ls 4 [(0, .ref (ad 0 0)), (1, .int x1), (2, .ref (ad 12 0))] := by exact hl
    refine s_i2l C0 dL_brush_7 rfl ?_
    refine s_last C0 hh dL_brush_8 (fun H locs hh => ?_)
    refine s_goto (tgt := 15) C0 dL_brush_9 (by decide) ?_
    refine s_iconst (v := 0) C0 dL_brush_15 (by decide) ?_
    intro r h; cases h; exact h_ret C0 AdX.rf hh hR (Nat.le_of_ble_eq_true rfl) (Nat.le_of_ble_eq_true rfl) dL_brush_16
theorem qc92 {R : Room} {s : State} {args : Array Value} (ht : ∀ w ∈ allw, w.before args s = true) (hR : (rmX3_work).frames + 1 ≤ R.frames ∧ 8 + (2 + 11) + (rmX3_work).locals ≤ R.locals) : CallW R s args RL RX3 93 yX3_work cX3_work 2 (some .int) (wm yX3_work cX3_work 2 (some .int)) rmX3_work 1 6 1 := cwV 1 ht (gd_of (fun _ h => h) _ (mV w486 w488 w489 w64 w487)) rfl rfl rfl (by decide +kernel) hR
def rmL_work : Room := { frames := 8, cells := 1, slots := 6, locals := 132 }
def f_L_work (σ : Sg) (x1 : Int32) : Option (Int32 × Sg) :=
  bx (f_X3_work σ x1) (fun r1 => (some (0, svo r1.2 (r1.1 : Int32).toInt64))) (fun x => (if x.1 = 1 then some (1, x.2) else none))
set_option maxRecDepth 100000 in
set_option maxHeartbeats 8000000 in
theorem c_L_work (hst : l.stackTraces = false) (σ : Sg) (x1 : Int32) : CtH l yL_work (wh yL_work cL_work 4 (some .int) [(0, 9, 12, 21)]) rmL_work 1 6 [.ref (ad 0 0), .int x1, .ref (ad 12 0)] D cy n0 ad nT nO σ (f_L_work σ x1) := by
  intro r0 h0
  refine vx_ofWH (cc := cL_work) (maxL := 4) (ret := (some .int)) (hh := [(0, 9, 12, 21)]) (by decide +kernel) rfl ?_
  intro p e s m args below meth c s₁ B hml hv
  have htab : c.exceptionTable.toList = tableOf [(0, 9, 12, 21)] := vx_table (x := yL_work) (y := yL_work) B (atoms_spec (ws := (wh yL_work cL_work 4 (some .int) [(0, 9, 12, 21)])) B.pre _ List.mem_cons_self)
  obtain ⟨C0, hh, hR, rfl⟩ := ent B hml hst hv
  rw [lg_entry_eq]
  have hl := lv_entry ([.ref (ad 0 0), .int x1, .ref (ad 12 0)]) (n := 4) (Nat.le_of_ble_eq_true rfl)
  generalize (lg_sl ([.ref (ad 0 0), .int x1, .ref (ad 12 0)]) ++ List.replicate (4 - (lg_sl ([.ref (ad 0 0), .int x1, .ref (ad 12 0)])).length) Slot.unset).toArray = ls at hl ⊢
  have hl : lv_has ls 4 [(0, .ref (ad 0 0)), (1, .int x1), (2, .ref (ad 12 0))] := hl
  refine (show Sm (QH below _ s D cy n0 ad 1 6) (f_L_work σ x1) p l e rmL_work s m _ below meth c s.heap [] 0 0 (F0 m 0 ls []) from ?_) r0 h0
  unfold f_L_work
  refine s_aload_n C0 dL_work_0 rfl (lv_at hl 2 rfl) ?_
  refine s_iconst (v := 0) C0 dL_work_1 (by decide) ?_
  refine s_aload_n C0 dL_work_2 rfl (lv_at hl 0 rfl) ?_
  refine s_iload_n C0 dL_work_3 rfl (lv_at hl 1 rfl) ?_
  obtain ⟨q, hq, -⟩ := wd_get (ad := ad) (cy := cy) (σ := σ) (nT := nT) (nO := nO) (rl_b (r := (0, 0)) (by decide))
  refine run_x (vv := vI) (As := .ref (ad 0 0) :: [.int x1]) (rest := [.int 0, .ref (ad 12 0)]) hh (fun r ho => vx_runV (As := [.int x1]) (rest := [.int 0, .ref (ad 12 0)]) C0.1 (c_X3_work C0.2.2.2.2.2.2 σ x1 r ho) (qc92 C0.1.2.2.2.2 ⟨Nat.le_of_ble_eq_true rfl, Nat.le_of_ble_eq_true rfl⟩) ⟨Pw_blind, va_recv C0.2.2.1 hh.1 (q := (RX3, TX3, 6)) (ci := 3) rfl hq, fun U hU hW => ⟨rfl, hh.pw C0 U hU hW⟩⟩ rfl rfl hl.1 rfl (lv_room (Nat.le_of_ble_eq_true rfl)) dL_work_4 ⟨Nat.le_of_ble_eq_true rfl, Nat.le_of_ble_eq_true rfl⟩) (fun r x H locs cel q9 hx hh hce hcv hcl => ?_) (fun r1 H locs _ hh => ?_)
  · by_cases e0 : r.1 = 1
    · rw [if_pos e0] at hx; cases hx; rw [e0] at hcl
      refine h_catch C0 [] ⟨0, 9, 12, 21⟩ [] (by rw [htab]; rfl) (fun _ h => nomatch h) (by decide) (by decide) w400 w402 hce hcv hcl ?_
      refine lv_astore_n (lv' := [(3, .ref q9), (0, .ref (ad 0 0)), (1, .int x1), (2, .ref (ad 12 0))]) C0.1.1 C0.1.2.1 dL_work_12 rfl hl (by decide) rfl (fun ls hl => ?_)
      refine lv_iconst (v := 1) C0.1.1 C0.1.2.1 dL_work_13 (by decide) ?_
      exact h_ret C0 AdX.rf hh hR (Nat.le_of_ble_eq_true rfl) (Nat.le_of_ble_eq_true rfl) dL_work_14
    rw [if_neg e0] at hx
    cases hx
  · have hl : lv_has ls 4 [(0, .ref (ad 0 0)), (1, .int x1), (2, .ref (ad 12 0))] := by exact hl
    refine s_i2l C0 dL_work_7 rfl ?_
    refine s_last C0 hh dL_work_8 (fun H locs hh => ?_)
    refine s_goto (tgt := 15) C0 dL_work_9 (by decide) ?_
    refine s_iconst (v := 0) C0 dL_work_15 (by decide) ?_
    intro r h; cases h; exact h_ret C0 AdX.rf hh hR (Nat.le_of_ble_eq_true rfl) (Nat.le_of_ble_eq_true rfl) dL_work_16
theorem qc93 {R : Room} {s : State} {args : Array Value} (ht : ∀ w ∈ allw, w.before args s = true) (hR : (rmX3_soften).frames + 1 ≤ R.frames ∧ 8 + (4 + 11) + (rmX3_soften).locals ≤ R.locals) : CallW R s args RL RX3 96 yX3_soften cX3_soften 4 (some .int) (wm yX3_soften cX3_soften 4 (some .int)) rmX3_soften 2 12 1 := cwV 1 ht (gd_of (fun _ h => h) _ (mV w490 w492 w493 w64 w491)) rfl rfl rfl (by decide +kernel) hR
def rmL_soften : Room := { frames := 8, cells := 2, slots := 12, locals := 134 }
def f_L_soften (σ : Sg) (x1 : Int32) : Option (Int32 × Sg) :=
  bx (f_X3_soften σ x1) (fun r1 => (some (0, svo r1.2 (r1.1 : Int32).toInt64))) (fun x => (if x.1 = 1 then some (1, x.2) else (if x.1 = 4 then some (2, x.2) else none)))
set_option maxRecDepth 100000 in
set_option maxHeartbeats 8000000 in
theorem c_L_soften (hst : l.stackTraces = false) (σ : Sg) (x1 : Int32) : CtH l yL_soften (wh yL_soften cL_soften 4 (some .int) [(0, 9, 12, 21), (0, 9, 15, 23)]) rmL_soften 2 12 [.ref (ad 0 0), .int x1, .ref (ad 12 0)] D cy n0 ad nT nO σ (f_L_soften σ x1) := by
  intro r0 h0
  refine vx_ofWH (cc := cL_soften) (maxL := 4) (ret := (some .int)) (hh := [(0, 9, 12, 21), (0, 9, 15, 23)]) (by decide +kernel) rfl ?_
  intro p e s m args below meth c s₁ B hml hv
  have htab : c.exceptionTable.toList = tableOf [(0, 9, 12, 21), (0, 9, 15, 23)] := vx_table (x := yL_soften) (y := yL_soften) B (atoms_spec (ws := (wh yL_soften cL_soften 4 (some .int) [(0, 9, 12, 21), (0, 9, 15, 23)])) B.pre _ List.mem_cons_self)
  obtain ⟨C0, hh, hR, rfl⟩ := ent B hml hst hv
  rw [lg_entry_eq]
  have hl := lv_entry ([.ref (ad 0 0), .int x1, .ref (ad 12 0)]) (n := 4) (Nat.le_of_ble_eq_true rfl)
  generalize (lg_sl ([.ref (ad 0 0), .int x1, .ref (ad 12 0)]) ++ List.replicate (4 - (lg_sl ([.ref (ad 0 0), .int x1, .ref (ad 12 0)])).length) Slot.unset).toArray = ls at hl ⊢
  have hl : lv_has ls 4 [(0, .ref (ad 0 0)), (1, .int x1), (2, .ref (ad 12 0))] := hl
  refine (show Sm (QH below _ s D cy n0 ad 2 12) (f_L_soften σ x1) p l e rmL_soften s m _ below meth c s.heap [] 0 0 (F0 m 0 ls []) from ?_) r0 h0
  unfold f_L_soften
  refine s_aload_n C0 dL_soften_0 rfl (lv_at hl 2 rfl) ?_
  refine s_iconst (v := 0) C0 dL_soften_1 (by decide) ?_
  refine s_aload_n C0 dL_soften_2 rfl (lv_at hl 0 rfl) ?_
  refine s_iload_n C0 dL_soften_3 rfl (lv_at hl 1 rfl) ?_
  obtain ⟨q, hq, -⟩ := wd_get (ad := ad) (cy := cy) (σ := σ) (nT := nT) (nO := nO) (rl_b (r := (0, 0)) (by decide))
  refine run_x (vv := vI) (As := .ref (ad 0 0) :: [.int x1]) (rest := [.int 0, .ref (ad 12 0)]) hh (fun r ho => vx_runV (As := [.int x1]) (rest := [.int 0, .ref (ad 12 0)]) C0.1 (c_X3_soften C0.2.2.2.2.2.2 σ x1 r ho) (qc93 C0.1.2.2.2.2 ⟨Nat.le_of_ble_eq_true rfl, Nat.le_of_ble_eq_true rfl⟩) ⟨Pw_blind, va_recv C0.2.2.1 hh.1 (q := (RX3, TX3, 6)) (ci := 3) rfl hq, fun U hU hW => ⟨rfl, hh.pw C0 U hU hW⟩⟩ rfl rfl hl.1 rfl (lv_room (Nat.le_of_ble_eq_true rfl)) dL_soften_4 ⟨Nat.le_of_ble_eq_true rfl, Nat.le_of_ble_eq_true rfl⟩) (fun r x H locs cel q9 hx hh hce hcv hcl => ?_) (fun r1 H locs _ hh => ?_)
  · by_cases e0 : r.1 = 1
    · rw [if_pos e0] at hx; cases hx; rw [e0] at hcl
      refine h_catch C0 [] ⟨0, 9, 12, 21⟩ [⟨0, 9, 15, 23⟩] (by rw [htab]; rfl) (fun _ h => nomatch h) (by decide) (by decide) w400 w402 hce hcv hcl ?_
      refine lv_astore_n (lv' := [(3, .ref q9), (0, .ref (ad 0 0)), (1, .int x1), (2, .ref (ad 12 0))]) C0.1.1 C0.1.2.1 dL_soften_12 rfl hl (by decide) rfl (fun ls hl => ?_)
      refine lv_iconst (v := 1) C0.1.1 C0.1.2.1 dL_soften_13 (by decide) ?_
      exact h_ret C0 AdX.rf hh hR (Nat.le_of_ble_eq_true rfl) (Nat.le_of_ble_eq_true rfl) dL_soften_14
    rw [if_neg e0] at hx
    by_cases e1 : r.1 = 4
    · rw [if_pos e1] at hx; cases hx; rw [e1] at hcl
      refine h_catch C0 [⟨0, 9, 12, 21⟩] ⟨0, 9, 15, 23⟩ [] (by rw [htab]; rfl) (fun z hz => by
        rcases List.mem_cons.mp hz with rfl | hz
        · exact ⟨1, by decide, w400, by decide⟩
        exact absurd hz List.not_mem_nil) (by decide) (by decide) w401 w403 hce hcv hcl ?_
      refine lv_astore_n (lv' := [(3, .ref q9), (0, .ref (ad 0 0)), (1, .int x1), (2, .ref (ad 12 0))]) C0.1.1 C0.1.2.1 dL_soften_15 rfl hl (by decide) rfl (fun ls hl => ?_)
      refine lv_iconst (v := 2) C0.1.1 C0.1.2.1 dL_soften_16 (by decide) ?_
      exact h_ret C0 AdX.rf hh hR (Nat.le_of_ble_eq_true rfl) (Nat.le_of_ble_eq_true rfl) dL_soften_17
    rw [if_neg e1] at hx
    cases hx
  · have hl : lv_has ls 4 [(0, .ref (ad 0 0)), (1, .int x1), (2, .ref (ad 12 0))] := by exact hl
    refine s_i2l C0 dL_soften_7 rfl ?_
    refine s_last C0 hh dL_soften_8 (fun H locs hh => ?_)
    refine s_goto (tgt := 18) C0 dL_soften_9 (by decide) ?_
    refine s_iconst (v := 0) C0 dL_soften_18 (by decide) ?_
    intro r h; cases h; exact h_ret C0 AdX.rf hh hR (Nat.le_of_ble_eq_true rfl) (Nat.le_of_ble_eq_true rfl) dL_soften_19
theorem qc94 {R : Room} {s : State} {args : Array Value} (ht : ∀ w ∈ allw, w.before args s = true) (hR : (rmX3_grind).frames + 1 ≤ R.frames ∧ 8 + (3 + 11) + (rmX3_grind).locals ≤ R.locals) : CallW R s args RL RX3 99 yX3_grind cX3_grind 3 (some .int) (wm yX3_grind cX3_grind 3 (some .int)) rmX3_grind 2 12 1 := cwV 1 ht (gd_of (fun _ h => h) _ (mV w494 w496 w497 w64 w495)) rfl rfl rfl (by decide +kernel) hR
def rmL_grind : Room := { frames := 8, cells := 2, slots := 12, locals := 133 }
def f_L_grind (σ : Sg) (x1 : Int32) : Option (Int32 × Sg) :=
  bx (f_X3_grind σ x1) (fun r1 => (some (0, svo r1.2 (r1.1 : Int32).toInt64))) (fun x => (if x.1 = 1 then some (1, x.2) else (if x.1 = 4 then some (2, x.2) else none)))
set_option maxRecDepth 100000 in
set_option maxHeartbeats 8000000 in
theorem c_L_grind (hst : l.stackTraces = false) (σ : Sg) (x1 : Int32) : CtH l yL_grind (wh yL_grind cL_grind 4 (some .int) [(0, 9, 12, 21), (0, 9, 15, 23)]) rmL_grind 2 12 [.ref (ad 0 0), .int x1, .ref (ad 12 0)] D cy n0 ad nT nO σ (f_L_grind σ x1) := by
  intro r0 h0
  refine vx_ofWH (cc := cL_grind) (maxL := 4) (ret := (some .int)) (hh := [(0, 9, 12, 21), (0, 9, 15, 23)]) (by decide +kernel) rfl ?_
  intro p e s m args below meth c s₁ B hml hv
  have htab : c.exceptionTable.toList = tableOf [(0, 9, 12, 21), (0, 9, 15, 23)] := vx_table (x := yL_grind) (y := yL_grind) B (atoms_spec (ws := (wh yL_grind cL_grind 4 (some .int) [(0, 9, 12, 21), (0, 9, 15, 23)])) B.pre _ List.mem_cons_self)
  obtain ⟨C0, hh, hR, rfl⟩ := ent B hml hst hv
  rw [lg_entry_eq]
  have hl := lv_entry ([.ref (ad 0 0), .int x1, .ref (ad 12 0)]) (n := 4) (Nat.le_of_ble_eq_true rfl)
  generalize (lg_sl ([.ref (ad 0 0), .int x1, .ref (ad 12 0)]) ++ List.replicate (4 - (lg_sl ([.ref (ad 0 0), .int x1, .ref (ad 12 0)])).length) Slot.unset).toArray = ls at hl ⊢
  have hl : lv_has ls 4 [(0, .ref (ad 0 0)), (1, .int x1), (2, .ref (ad 12 0))] := hl
  refine (show Sm (QH below _ s D cy n0 ad 2 12) (f_L_grind σ x1) p l e rmL_grind s m _ below meth c s.heap [] 0 0 (F0 m 0 ls []) from ?_) r0 h0
  unfold f_L_grind
  refine s_aload_n C0 dL_grind_0 rfl (lv_at hl 2 rfl) ?_
  refine s_iconst (v := 0) C0 dL_grind_1 (by decide) ?_
  refine s_aload_n C0 dL_grind_2 rfl (lv_at hl 0 rfl) ?_
  refine s_iload_n C0 dL_grind_3 rfl (lv_at hl 1 rfl) ?_
  obtain ⟨q, hq, -⟩ := wd_get (ad := ad) (cy := cy) (σ := σ) (nT := nT) (nO := nO) (rl_b (r := (0, 0)) (by decide))
  refine run_x (vv := vI) (As := .ref (ad 0 0) :: [.int x1]) (rest := [.int 0, .ref (ad 12 0)]) hh (fun r ho => vx_runV (As := [.int x1]) (rest := [.int 0, .ref (ad 12 0)]) C0.1 (c_X3_grind C0.2.2.2.2.2.2 σ x1 r ho) (qc94 C0.1.2.2.2.2 ⟨Nat.le_of_ble_eq_true rfl, Nat.le_of_ble_eq_true rfl⟩) ⟨Pw_blind, va_recv C0.2.2.1 hh.1 (q := (RX3, TX3, 6)) (ci := 3) rfl hq, fun U hU hW => ⟨rfl, hh.pw C0 U hU hW⟩⟩ rfl rfl hl.1 rfl (lv_room (Nat.le_of_ble_eq_true rfl)) dL_grind_4 ⟨Nat.le_of_ble_eq_true rfl, Nat.le_of_ble_eq_true rfl⟩) (fun r x H locs cel q9 hx hh hce hcv hcl => ?_) (fun r1 H locs _ hh => ?_)
  · by_cases e0 : r.1 = 1
    · rw [if_pos e0] at hx; cases hx; rw [e0] at hcl
      refine h_catch C0 [] ⟨0, 9, 12, 21⟩ [⟨0, 9, 15, 23⟩] (by rw [htab]; rfl) (fun _ h => nomatch h) (by decide) (by decide) w400 w402 hce hcv hcl ?_
      refine lv_astore_n (lv' := [(3, .ref q9), (0, .ref (ad 0 0)), (1, .int x1), (2, .ref (ad 12 0))]) C0.1.1 C0.1.2.1 dL_grind_12 rfl hl (by decide) rfl (fun ls hl => ?_)
      refine lv_iconst (v := 1) C0.1.1 C0.1.2.1 dL_grind_13 (by decide) ?_
      exact h_ret C0 AdX.rf hh hR (Nat.le_of_ble_eq_true rfl) (Nat.le_of_ble_eq_true rfl) dL_grind_14
    rw [if_neg e0] at hx
    by_cases e1 : r.1 = 4
    · rw [if_pos e1] at hx; cases hx; rw [e1] at hcl
      refine h_catch C0 [⟨0, 9, 12, 21⟩] ⟨0, 9, 15, 23⟩ [] (by rw [htab]; rfl) (fun z hz => by
        rcases List.mem_cons.mp hz with rfl | hz
        · exact ⟨1, by decide, w400, by decide⟩
        exact absurd hz List.not_mem_nil) (by decide) (by decide) w401 w403 hce hcv hcl ?_
      refine lv_astore_n (lv' := [(3, .ref q9), (0, .ref (ad 0 0)), (1, .int x1), (2, .ref (ad 12 0))]) C0.1.1 C0.1.2.1 dL_grind_15 rfl hl (by decide) rfl (fun ls hl => ?_)
      refine lv_iconst (v := 2) C0.1.1 C0.1.2.1 dL_grind_16 (by decide) ?_
      exact h_ret C0 AdX.rf hh hR (Nat.le_of_ble_eq_true rfl) (Nat.le_of_ble_eq_true rfl) dL_grind_17
    rw [if_neg e1] at hx
    cases hx
  · have hl : lv_has ls 4 [(0, .ref (ad 0 0)), (1, .int x1), (2, .ref (ad 12 0))] := by exact hl
    refine s_i2l C0 dL_grind_7 rfl ?_
    refine s_last C0 hh dL_grind_8 (fun H locs hh => ?_)
    refine s_goto (tgt := 18) C0 dL_grind_9 (by decide) ?_
    refine s_iconst (v := 0) C0 dL_grind_18 (by decide) ?_
    intro r h; cases h; exact h_ret C0 AdX.rf hh hR (Nat.le_of_ble_eq_true rfl) (Nat.le_of_ble_eq_true rfl) dL_grind_19
theorem qc95 {R : Room} {s : State} {args : Array Value} (ht : ∀ w ∈ allw, w.before args s = true) (hR : (rmX3_recuts).frames + 1 ≤ R.frames ∧ 8 + (2 + 11) + (rmX3_recuts).locals ≤ R.locals) : CallW R s args RL RX3 102 yX3_recuts cX3_recuts 2 (some .int) (wm yX3_recuts cX3_recuts 2 (some .int)) rmX3_recuts 1 6 1 := cwV 1 ht (gd_of (fun _ h => h) _ (mV w498 w500 w501 w64 w499)) rfl rfl rfl (by decide +kernel) hR
def rmL_recuts : Room := { frames := 8, cells := 1, slots := 6, locals := 132 }
def f_L_recuts (σ : Sg) (x1 : Int32) : Option (Int32 × Sg) :=
  bx (f_X3_recuts σ x1) (fun r1 => (some (0, svo r1.2 (r1.1 : Int32).toInt64))) (fun x => (if x.1 = 1 then some (1, x.2) else none))
set_option maxRecDepth 100000 in
set_option maxHeartbeats 8000000 in
theorem c_L_recuts (hst : l.stackTraces = false) (σ : Sg) (x1 : Int32) : CtH l yL_recuts (wh yL_recuts cL_recuts 4 (some .int) [(0, 9, 12, 21)]) rmL_recuts 1 6 [.ref (ad 0 0), .int x1, .ref (ad 12 0)] D cy n0 ad nT nO σ (f_L_recuts σ x1) := by
  intro r0 h0
  refine vx_ofWH (cc := cL_recuts) (maxL := 4) (ret := (some .int)) (hh := [(0, 9, 12, 21)]) (by decide +kernel) rfl ?_
  intro p e s m args below meth c s₁ B hml hv
  have htab : c.exceptionTable.toList = tableOf [(0, 9, 12, 21)] := vx_table (x := yL_recuts) (y := yL_recuts) B (atoms_spec (ws := (wh yL_recuts cL_recuts 4 (some .int) [(0, 9, 12, 21)])) B.pre _ List.mem_cons_self)
  obtain ⟨C0, hh, hR, rfl⟩ := ent B hml hst hv
  rw [lg_entry_eq]
  have hl := lv_entry ([.ref (ad 0 0), .int x1, .ref (ad 12 0)]) (n := 4) (Nat.le_of_ble_eq_true rfl)
  generalize (lg_sl ([.ref (ad 0 0), .int x1, .ref (ad 12 0)]) ++ List.replicate (4 - (lg_sl ([.ref (ad 0 0), .int x1, .ref (ad 12 0)])).length) Slot.unset).toArray = ls at hl ⊢
  have hl : lv_has ls 4 [(0, .ref (ad 0 0)), (1, .int x1), (2, .ref (ad 12 0))] := hl
  refine (show Sm (QH below _ s D cy n0 ad 1 6) (f_L_recuts σ x1) p l e rmL_recuts s m _ below meth c s.heap [] 0 0 (F0 m 0 ls []) from ?_) r0 h0
  unfold f_L_recuts
  refine s_aload_n C0 dL_recuts_0 rfl (lv_at hl 2 rfl) ?_
  refine s_iconst (v := 0) C0 dL_recuts_1 (by decide) ?_
  refine s_aload_n C0 dL_recuts_2 rfl (lv_at hl 0 rfl) ?_
  refine s_iload_n C0 dL_recuts_3 rfl (lv_at hl 1 rfl) ?_
  obtain ⟨q, hq, -⟩ := wd_get (ad := ad) (cy := cy) (σ := σ) (nT := nT) (nO := nO) (rl_b (r := (0, 0)) (by decide))
  refine run_x (vv := vI) (As := .ref (ad 0 0) :: [.int x1]) (rest := [.int 0, .ref (ad 12 0)]) hh (fun r ho => vx_runV (As := [.int x1]) (rest := [.int 0, .ref (ad 12 0)]) C0.1 (c_X3_recuts C0.2.2.2.2.2.2 σ x1 r ho) (qc95 C0.1.2.2.2.2 ⟨Nat.le_of_ble_eq_true rfl, Nat.le_of_ble_eq_true rfl⟩) ⟨Pw_blind, va_recv C0.2.2.1 hh.1 (q := (RX3, TX3, 6)) (ci := 3) rfl hq, fun U hU hW => ⟨rfl, hh.pw C0 U hU hW⟩⟩ rfl rfl hl.1 rfl (lv_room (Nat.le_of_ble_eq_true rfl)) dL_recuts_4 ⟨Nat.le_of_ble_eq_true rfl, Nat.le_of_ble_eq_true rfl⟩) (fun r x H locs cel q9 hx hh hce hcv hcl => ?_) (fun r1 H locs _ hh => ?_)
  · by_cases e0 : r.1 = 1
    · rw [if_pos e0] at hx; cases hx; rw [e0] at hcl
      refine h_catch C0 [] ⟨0, 9, 12, 21⟩ [] (by rw [htab]; rfl) (fun _ h => nomatch h) (by decide) (by decide) w400 w402 hce hcv hcl ?_
      refine lv_astore_n (lv' := [(3, .ref q9), (0, .ref (ad 0 0)), (1, .int x1), (2, .ref (ad 12 0))]) C0.1.1 C0.1.2.1 dL_recuts_12 rfl hl (by decide) rfl (fun ls hl => ?_)
      refine lv_iconst (v := 1) C0.1.1 C0.1.2.1 dL_recuts_13 (by decide) ?_
      exact h_ret C0 AdX.rf hh hR (Nat.le_of_ble_eq_true rfl) (Nat.le_of_ble_eq_true rfl) dL_recuts_14
    rw [if_neg e0] at hx
    cases hx
  · have hl : lv_has ls 4 [(0, .ref (ad 0 0)), (1, .int x1), (2, .ref (ad 12 0))] := by exact hl
    refine s_i2l C0 dL_recuts_7 rfl ?_
    refine s_last C0 hh dL_recuts_8 (fun H locs hh => ?_)
    refine s_goto (tgt := 15) C0 dL_recuts_9 (by decide) ?_
    refine s_iconst (v := 0) C0 dL_recuts_15 (by decide) ?_
    intro r h; cases h; exact h_ret C0 AdX.rf hh hR (Nat.le_of_ble_eq_true rfl) (Nat.le_of_ble_eq_true rfl) dL_recuts_16
theorem qc96 {R : Room} {s : State} {args : Array Value} (ht : ∀ w ∈ allw, w.before args s = true) (hR : (rmX3_recutsLeft).frames + 1 ≤ R.frames ∧ 8 + (7 + 11) + (rmX3_recutsLeft).locals ≤ R.locals) : CallW R s args RL RX3 105 yX3_recutsLeft cX3_recutsLeft 7 (some .int) (wm yX3_recutsLeft cX3_recutsLeft 7 (some .int)) rmX3_recutsLeft 2 12 2 := cwV 2 ht (gd_of (fun _ h => h) _ (mV w502 w504 w505 w64 w503)) rfl rfl rfl (by decide +kernel) hR
def rmL_recutsLeft : Room := { frames := 8, cells := 2, slots := 12, locals := 137 }
def f_L_recutsLeft (σ : Sg) (x1 : Int32) (x2 : Int32) : Option (Int32 × Sg) :=
  bx (f_X3_recutsLeft σ x1 x2) (fun r1 => (some (0, svo r1.2 (r1.1 : Int32).toInt64))) (fun x => (if x.1 = 1 then some (1, x.2) else (if x.1 = 2 then some (2, x.2) else none)))
set_option maxRecDepth 100000 in
set_option maxHeartbeats 8000000 in
theorem c_L_recutsLeft (hst : l.stackTraces = false) (σ : Sg) (x1 : Int32) (x2 : Int32) : CtH l yL_recutsLeft (wh yL_recutsLeft cL_recutsLeft 5 (some .int) [(0, 10, 13, 21), (0, 10, 17, 13)]) rmL_recutsLeft 2 12 [.ref (ad 0 0), .int x1, .int x2, .ref (ad 12 0)] D cy n0 ad nT nO σ (f_L_recutsLeft σ x1 x2) := by
  intro r0 h0
  refine vx_ofWH (cc := cL_recutsLeft) (maxL := 5) (ret := (some .int)) (hh := [(0, 10, 13, 21), (0, 10, 17, 13)]) (by decide +kernel) rfl ?_
  intro p e s m args below meth c s₁ B hml hv
  have htab : c.exceptionTable.toList = tableOf [(0, 10, 13, 21), (0, 10, 17, 13)] := vx_table (x := yL_recutsLeft) (y := yL_recutsLeft) B (atoms_spec (ws := (wh yL_recutsLeft cL_recutsLeft 5 (some .int) [(0, 10, 13, 21), (0, 10, 17, 13)])) B.pre _ List.mem_cons_self)
  obtain ⟨C0, hh, hR, rfl⟩ := ent B hml hst hv
  rw [lg_entry_eq]
  have hl := lv_entry ([.ref (ad 0 0), .int x1, .int x2, .ref (ad 12 0)]) (n := 5) (Nat.le_of_ble_eq_true rfl)
  generalize (lg_sl ([.ref (ad 0 0), .int x1, .int x2, .ref (ad 12 0)]) ++ List.replicate (5 - (lg_sl ([.ref (ad 0 0), .int x1, .int x2, .ref (ad 12 0)])).length) Slot.unset).toArray = ls at hl ⊢
  have hl : lv_has ls 5 [(0, .ref (ad 0 0)), (1, .int x1), (2, .int x2), (3, .ref (ad 12 0))] := hl
  refine (show Sm (QH below _ s D cy n0 ad 2 12) (f_L_recutsLeft σ x1 x2) p l e rmL_recutsLeft s m _ below meth c s.heap [] 0 0 (F0 m 0 ls []) from ?_) r0 h0
  unfold f_L_recutsLeft
  refine s_aload_n C0 dL_recutsLeft_0 rfl (lv_at hl 3 rfl) ?_
  refine s_iconst (v := 0) C0 dL_recutsLeft_1 (by decide) ?_
  refine s_aload_n C0 dL_recutsLeft_2 rfl (lv_at hl 0 rfl) ?_
  refine s_iload_n C0 dL_recutsLeft_3 rfl (lv_at hl 1 rfl) ?_
  refine s_iload_n C0 dL_recutsLeft_4 rfl (lv_at hl 2 rfl) ?_
  obtain ⟨q, hq, -⟩ := wd_get (ad := ad) (cy := cy) (σ := σ) (nT := nT) (nO := nO) (rl_b (r := (0, 0)) (by decide))
  refine run_x (vv := vI) (As := .ref (ad 0 0) :: [.int x1, .int x2]) (rest := [.int 0, .ref (ad 12 0)]) hh (fun r ho => vx_runV (As := [.int x1, .int x2]) (rest := [.int 0, .ref (ad 12 0)]) C0.1 (c_X3_recutsLeft C0.2.2.2.2.2.2 σ x1 x2 r ho) (qc96 C0.1.2.2.2.2 ⟨Nat.le_of_ble_eq_true rfl, Nat.le_of_ble_eq_true rfl⟩) ⟨Pw_blind, va_recv C0.2.2.1 hh.1 (q := (RX3, TX3, 6)) (ci := 3) rfl hq, fun U hU hW => ⟨rfl, hh.pw C0 U hU hW⟩⟩ rfl rfl hl.1 rfl (lv_room (Nat.le_of_ble_eq_true rfl)) dL_recutsLeft_5 ⟨Nat.le_of_ble_eq_true rfl, Nat.le_of_ble_eq_true rfl⟩) (fun r x H locs cel q9 hx hh hce hcv hcl => ?_) (fun r1 H locs _ hh => ?_)
  · by_cases e0 : r.1 = 1
    · rw [if_pos e0] at hx; cases hx; rw [e0] at hcl
      refine h_catch C0 [] ⟨0, 10, 13, 21⟩ [⟨0, 10, 17, 13⟩] (by rw [htab]; rfl) (fun _ h => nomatch h) (by decide) (by decide) w400 w402 hce hcv hcl ?_
      refine lv_astore (lv' := [(4, .ref q9), (0, .ref (ad 0 0)), (1, .int x1), (2, .int x2), (3, .ref (ad 12 0))]) C0.1.1 C0.1.2.1 dL_recutsLeft_13 hl (by decide) rfl (fun ls hl => ?_)
      refine lv_iconst (v := 1) C0.1.1 C0.1.2.1 dL_recutsLeft_15 (by decide) ?_
      exact h_ret C0 AdX.rf hh hR (Nat.le_of_ble_eq_true rfl) (Nat.le_of_ble_eq_true rfl) dL_recutsLeft_16
    rw [if_neg e0] at hx
    by_cases e1 : r.1 = 2
    · rw [if_pos e1] at hx; cases hx; rw [e1] at hcl
      refine h_catch C0 [⟨0, 10, 13, 21⟩] ⟨0, 10, 17, 13⟩ [] (by rw [htab]; rfl) (fun z hz => by
        rcases List.mem_cons.mp hz with rfl | hz
        · exact ⟨1, by decide, w400, by decide⟩
        exact absurd hz List.not_mem_nil) (by decide) (by decide) w392 w394 hce hcv hcl ?_
      refine lv_astore (lv' := [(4, .ref q9), (0, .ref (ad 0 0)), (1, .int x1), (2, .int x2), (3, .ref (ad 12 0))]) C0.1.1 C0.1.2.1 dL_recutsLeft_17 hl (by decide) rfl (fun ls hl => ?_)
      refine lv_iconst (v := 2) C0.1.1 C0.1.2.1 dL_recutsLeft_19 (by decide) ?_
      exact h_ret C0 AdX.rf hh hR (Nat.le_of_ble_eq_true rfl) (Nat.le_of_ble_eq_true rfl) dL_recutsLeft_20
    rw [if_neg e1] at hx
    cases hx
  · have hl : lv_has ls 5 [(0, .ref (ad 0 0)), (1, .int x1), (2, .int x2), (3, .ref (ad 12 0))] := by exact hl
    refine s_i2l C0 dL_recutsLeft_8 rfl ?_
    refine s_last C0 hh dL_recutsLeft_9 (fun H locs hh => ?_)
    refine s_goto (tgt := 21) C0 dL_recutsLeft_10 (by decide) ?_
    refine s_iconst (v := 0) C0 dL_recutsLeft_21 (by decide) ?_
    intro r h; cases h; exact h_ret C0 AdX.rf hh hR (Nat.le_of_ble_eq_true rfl) (Nat.le_of_ble_eq_true rfl) dL_recutsLeft_22
theorem qc97 {R : Room} {s : State} {args : Array Value} (ht : ∀ w ∈ allw, w.before args s = true) (hR : (rmX3_order).frames + 1 ≤ R.frames ∧ 8 + (4 + 11) + (rmX3_order).locals ≤ R.locals) : CallW R s args RL RX3 109 yX3_order cX3_order 4 (some .int) (wm yX3_order cX3_order 4 (some .int)) rmX3_order 4 24 3 := cwV 3 ht (gd_of (fun _ h => h) _ (mV w506 w508 w509 w64 w507)) rfl rfl rfl (by decide +kernel) hR
def rmL_order : Room := { frames := 8, cells := 4, slots := 24, locals := 135 }
def f_L_order (σ : Sg) (x1 : Int32) (x2 : Int32) (x3 : Int32) : Option (Int32 × Sg) :=
  bx (f_X3_order σ x1 x2 x3) (fun r1 => (some (0, svo r1.2 (r1.1 : Int32).toInt64))) (fun x => (if x.1 = 2 then some (1, x.2) else (if x.1 = 3 then some (2, x.2) else none)))
set_option maxRecDepth 100000 in
set_option maxHeartbeats 8000000 in
theorem c_L_order (hst : l.stackTraces = false) (σ : Sg) (x1 : Int32) (x2 : Int32) (x3 : Int32) : CtH l yL_order (wh yL_order cL_order 6 (some .int) [(0, 12, 15, 13), (0, 12, 19, 15)]) rmL_order 4 24 [.ref (ad 0 0), .int x1, .int x2, .int x3, .ref (ad 12 0)] D cy n0 ad nT nO σ (f_L_order σ x1 x2 x3) := by
  intro r0 h0
  refine vx_ofWH (cc := cL_order) (maxL := 6) (ret := (some .int)) (hh := [(0, 12, 15, 13), (0, 12, 19, 15)]) (by decide +kernel) rfl ?_
  intro p e s m args below meth c s₁ B hml hv
  have htab : c.exceptionTable.toList = tableOf [(0, 12, 15, 13), (0, 12, 19, 15)] := vx_table (x := yL_order) (y := yL_order) B (atoms_spec (ws := (wh yL_order cL_order 6 (some .int) [(0, 12, 15, 13), (0, 12, 19, 15)])) B.pre _ List.mem_cons_self)
  obtain ⟨C0, hh, hR, rfl⟩ := ent B hml hst hv
  rw [lg_entry_eq]
  have hl := lv_entry ([.ref (ad 0 0), .int x1, .int x2, .int x3, .ref (ad 12 0)]) (n := 6) (Nat.le_of_ble_eq_true rfl)
  generalize (lg_sl ([.ref (ad 0 0), .int x1, .int x2, .int x3, .ref (ad 12 0)]) ++ List.replicate (6 - (lg_sl ([.ref (ad 0 0), .int x1, .int x2, .int x3, .ref (ad 12 0)])).length) Slot.unset).toArray = ls at hl ⊢
  have hl : lv_has ls 6 [(0, .ref (ad 0 0)), (1, .int x1), (2, .int x2), (3, .int x3), (4, .ref (ad 12 0))] := hl
  refine (show Sm (QH below _ s D cy n0 ad 4 24) (f_L_order σ x1 x2 x3) p l e rmL_order s m _ below meth c s.heap [] 0 0 (F0 m 0 ls []) from ?_) r0 h0
  unfold f_L_order
  refine s_aload C0 dL_order_0 (lv_at hl 4 rfl) ?_
  refine s_iconst (v := 0) C0 dL_order_2 (by decide) ?_
  refine s_aload_n C0 dL_order_3 rfl (lv_at hl 0 rfl) ?_
  refine s_iload_n C0 dL_order_4 rfl (lv_at hl 1 rfl) ?_
  refine s_iload_n C0 dL_order_5 rfl (lv_at hl 2 rfl) ?_
  refine s_iload_n C0 dL_order_6 rfl (lv_at hl 3 rfl) ?_
  obtain ⟨q, hq, -⟩ := wd_get (ad := ad) (cy := cy) (σ := σ) (nT := nT) (nO := nO) (rl_b (r := (0, 0)) (by decide))
  refine run_xB (dT := 0) (dO := 1) (As := .ref (ad 0 0) :: [.int x1, .int x2, .int x3]) (rest := [.int 0, .ref (ad 12 0)]) hh (fun r ho => vx_runV (As := [.int x1, .int x2, .int x3]) (rest := [.int 0, .ref (ad 12 0)]) C0.1 (c_X3_order C0.2.2.2.2.2.2 σ x1 x2 x3 r ho) (qc97 C0.1.2.2.2.2 ⟨Nat.le_of_ble_eq_true rfl, Nat.le_of_ble_eq_true rfl⟩) ⟨Pw_blind, va_recv C0.2.2.1 hh.1 (q := (RX3, TX3, 6)) (ci := 3) rfl hq, fun U hU hW => ⟨rfl, hh.pw C0 U hU hW⟩⟩ rfl rfl hl.1 rfl (lv_room (Nat.le_of_ble_eq_true rfl)) dL_order_7 ⟨Nat.le_of_ble_eq_true rfl, Nat.le_of_ble_eq_true rfl⟩) (fun r x H locs cel q9 hx hh hce hcv hcl => ?_) (fun r1 H locs ad' hax hh => ?_)
  · by_cases e0 : r.1 = 2
    · rw [if_pos e0] at hx; cases hx; rw [e0] at hcl
      refine h_catch C0 [] ⟨0, 12, 15, 13⟩ [⟨0, 12, 19, 15⟩] (by rw [htab]; rfl) (fun _ h => nomatch h) (by decide) (by decide) w392 w394 hce hcv hcl ?_
      refine lv_astore (lv' := [(5, .ref q9), (0, .ref (ad 0 0)), (1, .int x1), (2, .int x2), (3, .int x3), (4, .ref (ad 12 0))]) C0.1.1 C0.1.2.1 dL_order_15 hl (by decide) rfl (fun ls hl => ?_)
      refine lv_iconst (v := 1) C0.1.1 C0.1.2.1 dL_order_17 (by decide) ?_
      exact h_ret C0 AdX.rf hh hR (Nat.le_of_ble_eq_true rfl) (Nat.le_of_ble_eq_true rfl) dL_order_18
    rw [if_neg e0] at hx
    by_cases e1 : r.1 = 3
    · rw [if_pos e1] at hx; cases hx; rw [e1] at hcl
      refine h_catch C0 [⟨0, 12, 15, 13⟩] ⟨0, 12, 19, 15⟩ [] (by rw [htab]; rfl) (fun z hz => by
        rcases List.mem_cons.mp hz with rfl | hz
        · exact ⟨2, by decide, w392, by decide⟩
        exact absurd hz List.not_mem_nil) (by decide) (by decide) w393 w395 hce hcv hcl ?_
      refine lv_astore (lv' := [(5, .ref q9), (0, .ref (ad 0 0)), (1, .int x1), (2, .int x2), (3, .int x3), (4, .ref (ad 12 0))]) C0.1.1 C0.1.2.1 dL_order_19 hl (by decide) rfl (fun ls hl => ?_)
      refine lv_iconst (v := 2) C0.1.1 C0.1.2.1 dL_order_21 (by decide) ?_
      exact h_ret C0 AdX.rf hh hR (Nat.le_of_ble_eq_true rfl) (Nat.le_of_ble_eq_true rfl) dL_order_22
    rw [if_neg e1] at hx
    cases hx
  · have hl : lv_has ls 6 [(0, .ref (ad' 0 0)), (1, .int x1), (2, .int x2), (3, .int x3), (4, .ref (ad' 12 0))] := by rw [hax 0 (by omega), hax 12 (by omega)]; exact hl
    refine s_fr (g' := F0 m 10 ls [.int r1.1, .int 0, .ref (ad' 12 0)]) (by rw [hax 12 (by omega)]) ?_
    refine s_i2l C0 dL_order_10 rfl ?_
    refine s_last C0 hh dL_order_11 (fun H locs hh => ?_)
    refine s_goto (tgt := 23) C0 dL_order_12 (by decide) ?_
    refine s_iconst (v := 0) C0 dL_order_23 (by decide) ?_
    intro r h; cases h; exact h_ret C0 hax hh hR (Nat.le_of_ble_eq_true rfl) (Nat.le_of_ble_eq_true rfl) dL_order_24
theorem qc98 {R : Room} {s : State} {args : Array Value} (ht : ∀ w ∈ allw, w.before args s = true) (hR : (rmX3_isGood).frames + 1 ≤ R.frames ∧ 8 + (4 + 11) + (rmX3_isGood).locals ≤ R.locals) : CallW R s args RL RX3 113 yX3_isGood cX3_isGood 4 (some .boolean) (wm yX3_isGood cX3_isGood 4 (some .boolean)) rmX3_isGood 2 12 2 := cwV 2 ht (gd_of (fun _ h => h) _ (mV w510 w512 w513 w64 w511)) rfl rfl rfl (by decide +kernel) hR
def rmL_isGood : Room := { frames := 8, cells := 2, slots := 12, locals := 134 }
def f_L_isGood (σ : Sg) (x1 : Int32) (x2 : Int32) : Option (Int32 × Sg) :=
  bx (f_X3_isGood σ x1 x2) (fun r1 => (if (r1.1 : Int32) = (0 : Int32) then (some (0, svo r1.2 0)) else (some (0, svo r1.2 1)))) (fun x => (if x.1 = 1 then some (1, x.2) else none))
set_option maxRecDepth 100000 in
set_option maxHeartbeats 8000000 in
theorem c_L_isGood (hst : l.stackTraces = false) (σ : Sg) (x1 : Int32) (x2 : Int32) : CtH l yL_isGood (wh yL_isGood cL_isGood 5 (some .int) [(0, 17, 20, 21)]) rmL_isGood 2 12 [.ref (ad 0 0), .int x1, .int x2, .ref (ad 12 0)] D cy n0 ad nT nO σ (f_L_isGood σ x1 x2) := by
  intro r0 h0
  refine vx_ofWH (cc := cL_isGood) (maxL := 5) (ret := (some .int)) (hh := [(0, 17, 20, 21)]) (by decide +kernel) rfl ?_
  intro p e s m args below meth c s₁ B hml hv
  have htab : c.exceptionTable.toList = tableOf [(0, 17, 20, 21)] := vx_table (x := yL_isGood) (y := yL_isGood) B (atoms_spec (ws := (wh yL_isGood cL_isGood 5 (some .int) [(0, 17, 20, 21)])) B.pre _ List.mem_cons_self)
  obtain ⟨C0, hh, hR, rfl⟩ := ent B hml hst hv
  rw [lg_entry_eq]
  have hl := lv_entry ([.ref (ad 0 0), .int x1, .int x2, .ref (ad 12 0)]) (n := 5) (Nat.le_of_ble_eq_true rfl)
  generalize (lg_sl ([.ref (ad 0 0), .int x1, .int x2, .ref (ad 12 0)]) ++ List.replicate (5 - (lg_sl ([.ref (ad 0 0), .int x1, .int x2, .ref (ad 12 0)])).length) Slot.unset).toArray = ls at hl ⊢
  have hl : lv_has ls 5 [(0, .ref (ad 0 0)), (1, .int x1), (2, .int x2), (3, .ref (ad 12 0))] := hl
  refine (show Sm (QH below _ s D cy n0 ad 2 12) (f_L_isGood σ x1 x2) p l e rmL_isGood s m _ below meth c s.heap [] 0 0 (F0 m 0 ls []) from ?_) r0 h0
  unfold f_L_isGood
  refine s_aload_n C0 dL_isGood_0 rfl (lv_at hl 3 rfl) ?_
  refine s_iconst (v := 0) C0 dL_isGood_1 (by decide) ?_
  refine s_aload_n C0 dL_isGood_2 rfl (lv_at hl 0 rfl) ?_
  refine s_iload_n C0 dL_isGood_3 rfl (lv_at hl 1 rfl) ?_
  refine s_iload_n C0 dL_isGood_4 rfl (lv_at hl 2 rfl) ?_
  obtain ⟨q, hq, -⟩ := wd_get (ad := ad) (cy := cy) (σ := σ) (nT := nT) (nO := nO) (rl_b (r := (0, 0)) (by decide))
  refine run_x (vv := vI) (As := .ref (ad 0 0) :: [.int x1, .int x2]) (rest := [.int 0, .ref (ad 12 0)]) hh (fun r ho => vx_runV (As := [.int x1, .int x2]) (rest := [.int 0, .ref (ad 12 0)]) C0.1 (c_X3_isGood C0.2.2.2.2.2.2 σ x1 x2 r ho) (qc98 C0.1.2.2.2.2 ⟨Nat.le_of_ble_eq_true rfl, Nat.le_of_ble_eq_true rfl⟩) ⟨Pw_blind, va_recv C0.2.2.1 hh.1 (q := (RX3, TX3, 6)) (ci := 3) rfl hq, fun U hU hW => ⟨rfl, hh.pw C0 U hU hW⟩⟩ rfl rfl hl.1 rfl (lv_room (Nat.le_of_ble_eq_true rfl)) dL_isGood_5 ⟨Nat.le_of_ble_eq_true rfl, Nat.le_of_ble_eq_true rfl⟩) (fun r x H locs cel q9 hx hh hce hcv hcl => ?_) (fun r1 H locs _ hh => ?_)
  · by_cases e0 : r.1 = 1
    · rw [if_pos e0] at hx; cases hx; rw [e0] at hcl
      refine h_catch C0 [] ⟨0, 17, 20, 21⟩ [] (by rw [htab]; rfl) (fun _ h => nomatch h) (by decide) (by decide) w400 w402 hce hcv hcl ?_
      refine lv_astore (lv' := [(4, .ref q9), (0, .ref (ad 0 0)), (1, .int x1), (2, .int x2), (3, .ref (ad 12 0))]) C0.1.1 C0.1.2.1 dL_isGood_20 hl (by decide) rfl (fun ls hl => ?_)
      refine lv_iconst (v := 1) C0.1.1 C0.1.2.1 dL_isGood_22 (by decide) ?_
      exact h_ret C0 AdX.rf hh hR (Nat.le_of_ble_eq_true rfl) (Nat.le_of_ble_eq_true rfl) dL_isGood_23
    rw [if_neg e0] at hx
    cases hx
  · have hl : lv_has ls 5 [(0, .ref (ad 0 0)), (1, .int x1), (2, .int x2), (3, .ref (ad 12 0))] := by exact hl
    refine s_if_eq (tgt := 15) C0 dL_isGood_8 (by decide) (fun _ => ?_) (fun _ => ?_)
    · refine s_lconst (v := 0) C0 dL_isGood_15 (by decide) ?_
      refine s_last C0 hh dL_isGood_16 (fun H locs hh => ?_)
      refine s_goto (tgt := 24) C0 dL_isGood_17 (by decide) ?_
      refine s_iconst (v := 0) C0 dL_isGood_24 (by decide) ?_
      intro r h; cases h; exact h_ret C0 AdX.rf hh hR (Nat.le_of_ble_eq_true rfl) (Nat.le_of_ble_eq_true rfl) dL_isGood_25
    · refine s_lconst (v := 1) C0 dL_isGood_11 (by decide) ?_
      refine s_goto (tgt := 16) C0 dL_isGood_12 (by decide) ?_
      refine s_last C0 hh dL_isGood_16 (fun H locs hh => ?_)
      refine s_goto (tgt := 24) C0 dL_isGood_17 (by decide) ?_
      refine s_iconst (v := 0) C0 dL_isGood_24 (by decide) ?_
      intro r h; cases h; exact h_ret C0 AdX.rf hh hR (Nat.le_of_ble_eq_true rfl) (Nat.le_of_ble_eq_true rfl) dL_isGood_25
theorem qc99 {R : Room} {s : State} {args : Array Value} (ht : ∀ w ∈ allw, w.before args s = true) (hR : (rmX3_send).frames + 1 ≤ R.frames ∧ 8 + (5 + 11) + (rmX3_send).locals ≤ R.locals) : CallW R s args RL RX3 117 yX3_send cX3_send 5 (some .int) (wm yX3_send cX3_send 5 (some .int)) rmX3_send 3 18 2 := cwV 2 ht (gd_of (fun _ h => h) _ (mV w514 w516 w517 w64 w515)) rfl rfl rfl (by decide +kernel) hR
def rmL_send : Room := { frames := 8, cells := 3, slots := 18, locals := 135 }
def f_L_send (σ : Sg) (x1 : Int32) (x2 : Int32) : Option (Int32 × Sg) :=
  bx (f_X3_send σ x1 x2) (fun r1 => (some (0, svo r1.2 (r1.1 : Int32).toInt64))) (fun x => (if x.1 = 1 then some (1, x.2) else (if x.1 = 4 then some (2, x.2) else none)))
set_option maxRecDepth 100000 in
set_option maxHeartbeats 8000000 in
theorem c_L_send (hst : l.stackTraces = false) (σ : Sg) (x1 : Int32) (x2 : Int32) : CtH l yL_send (wh yL_send cL_send 5 (some .int) [(0, 10, 13, 21), (0, 10, 17, 23)]) rmL_send 3 18 [.ref (ad 0 0), .int x1, .int x2, .ref (ad 12 0)] D cy n0 ad nT nO σ (f_L_send σ x1 x2) := by
  intro r0 h0
  refine vx_ofWH (cc := cL_send) (maxL := 5) (ret := (some .int)) (hh := [(0, 10, 13, 21), (0, 10, 17, 23)]) (by decide +kernel) rfl ?_
  intro p e s m args below meth c s₁ B hml hv
  have htab : c.exceptionTable.toList = tableOf [(0, 10, 13, 21), (0, 10, 17, 23)] := vx_table (x := yL_send) (y := yL_send) B (atoms_spec (ws := (wh yL_send cL_send 5 (some .int) [(0, 10, 13, 21), (0, 10, 17, 23)])) B.pre _ List.mem_cons_self)
  obtain ⟨C0, hh, hR, rfl⟩ := ent B hml hst hv
  rw [lg_entry_eq]
  have hl := lv_entry ([.ref (ad 0 0), .int x1, .int x2, .ref (ad 12 0)]) (n := 5) (Nat.le_of_ble_eq_true rfl)
  generalize (lg_sl ([.ref (ad 0 0), .int x1, .int x2, .ref (ad 12 0)]) ++ List.replicate (5 - (lg_sl ([.ref (ad 0 0), .int x1, .int x2, .ref (ad 12 0)])).length) Slot.unset).toArray = ls at hl ⊢
  have hl : lv_has ls 5 [(0, .ref (ad 0 0)), (1, .int x1), (2, .int x2), (3, .ref (ad 12 0))] := hl
  refine (show Sm (QH below _ s D cy n0 ad 3 18) (f_L_send σ x1 x2) p l e rmL_send s m _ below meth c s.heap [] 0 0 (F0 m 0 ls []) from ?_) r0 h0
  unfold f_L_send
  refine s_aload_n C0 dL_send_0 rfl (lv_at hl 3 rfl) ?_
  refine s_iconst (v := 0) C0 dL_send_1 (by decide) ?_
  refine s_aload_n C0 dL_send_2 rfl (lv_at hl 0 rfl) ?_
  refine s_iload_n C0 dL_send_3 rfl (lv_at hl 1 rfl) ?_
  refine s_iload_n C0 dL_send_4 rfl (lv_at hl 2 rfl) ?_
  obtain ⟨q, hq, -⟩ := wd_get (ad := ad) (cy := cy) (σ := σ) (nT := nT) (nO := nO) (rl_b (r := (0, 0)) (by decide))
  refine run_x (vv := vI) (As := .ref (ad 0 0) :: [.int x1, .int x2]) (rest := [.int 0, .ref (ad 12 0)]) hh (fun r ho => vx_runV (As := [.int x1, .int x2]) (rest := [.int 0, .ref (ad 12 0)]) C0.1 (c_X3_send C0.2.2.2.2.2.2 σ x1 x2 r ho) (qc99 C0.1.2.2.2.2 ⟨Nat.le_of_ble_eq_true rfl, Nat.le_of_ble_eq_true rfl⟩) ⟨Pw_blind, va_recv C0.2.2.1 hh.1 (q := (RX3, TX3, 6)) (ci := 3) rfl hq, fun U hU hW => ⟨rfl, hh.pw C0 U hU hW⟩⟩ rfl rfl hl.1 rfl (lv_room (Nat.le_of_ble_eq_true rfl)) dL_send_5 ⟨Nat.le_of_ble_eq_true rfl, Nat.le_of_ble_eq_true rfl⟩) (fun r x H locs cel q9 hx hh hce hcv hcl => ?_) (fun r1 H locs _ hh => ?_)
  · by_cases e0 : r.1 = 1
    · rw [if_pos e0] at hx; cases hx; rw [e0] at hcl
      refine h_catch C0 [] ⟨0, 10, 13, 21⟩ [⟨0, 10, 17, 23⟩] (by rw [htab]; rfl) (fun _ h => nomatch h) (by decide) (by decide) w400 w402 hce hcv hcl ?_
      refine lv_astore (lv' := [(4, .ref q9), (0, .ref (ad 0 0)), (1, .int x1), (2, .int x2), (3, .ref (ad 12 0))]) C0.1.1 C0.1.2.1 dL_send_13 hl (by decide) rfl (fun ls hl => ?_)
      refine lv_iconst (v := 1) C0.1.1 C0.1.2.1 dL_send_15 (by decide) ?_
      exact h_ret C0 AdX.rf hh hR (Nat.le_of_ble_eq_true rfl) (Nat.le_of_ble_eq_true rfl) dL_send_16
    rw [if_neg e0] at hx
    by_cases e1 : r.1 = 4
    · rw [if_pos e1] at hx; cases hx; rw [e1] at hcl
      refine h_catch C0 [⟨0, 10, 13, 21⟩] ⟨0, 10, 17, 23⟩ [] (by rw [htab]; rfl) (fun z hz => by
        rcases List.mem_cons.mp hz with rfl | hz
        · exact ⟨1, by decide, w400, by decide⟩
        exact absurd hz List.not_mem_nil) (by decide) (by decide) w401 w403 hce hcv hcl ?_
      refine lv_astore (lv' := [(4, .ref q9), (0, .ref (ad 0 0)), (1, .int x1), (2, .int x2), (3, .ref (ad 12 0))]) C0.1.1 C0.1.2.1 dL_send_17 hl (by decide) rfl (fun ls hl => ?_)
      refine lv_iconst (v := 2) C0.1.1 C0.1.2.1 dL_send_19 (by decide) ?_
      exact h_ret C0 AdX.rf hh hR (Nat.le_of_ble_eq_true rfl) (Nat.le_of_ble_eq_true rfl) dL_send_20
    rw [if_neg e1] at hx
    cases hx
  · have hl : lv_has ls 5 [(0, .ref (ad 0 0)), (1, .int x1), (2, .int x2), (3, .ref (ad 12 0))] := by exact hl
    refine s_i2l C0 dL_send_8 rfl ?_
    refine s_last C0 hh dL_send_9 (fun H locs hh => ?_)
    refine s_goto (tgt := 21) C0 dL_send_10 (by decide) ?_
    refine s_iconst (v := 0) C0 dL_send_21 (by decide) ?_
    intro r h; cases h; exact h_ret C0 AdX.rf hh hR (Nat.le_of_ble_eq_true rfl) (Nat.le_of_ble_eq_true rfl) dL_send_22
theorem qc100 {R : Room} {s : State} {args : Array Value} (ht : ∀ w ∈ allw, w.before args s = true) (hR : (rmX3_sent).frames + 1 ≤ R.frames ∧ 8 + (2 + 11) + (rmX3_sent).locals ≤ R.locals) : CallW R s args RL RX3 120 yX3_sent cX3_sent 2 (some .int) (wm yX3_sent cX3_sent 2 (some .int)) rmX3_sent 1 6 1 := cwV 1 ht (gd_of (fun _ h => h) _ (mV w518 w520 w521 w64 w519)) rfl rfl rfl (by decide +kernel) hR
def rmL_sent : Room := { frames := 8, cells := 1, slots := 6, locals := 132 }
def f_L_sent (σ : Sg) (x1 : Int32) : Option (Int32 × Sg) :=
  bx (f_X3_sent σ x1) (fun r1 => (some (0, svo r1.2 (r1.1 : Int32).toInt64))) (fun x => (if x.1 = 1 then some (1, x.2) else none))
set_option maxRecDepth 100000 in
set_option maxHeartbeats 8000000 in
theorem c_L_sent (hst : l.stackTraces = false) (σ : Sg) (x1 : Int32) : CtH l yL_sent (wh yL_sent cL_sent 4 (some .int) [(0, 9, 12, 21)]) rmL_sent 1 6 [.ref (ad 0 0), .int x1, .ref (ad 12 0)] D cy n0 ad nT nO σ (f_L_sent σ x1) := by
  intro r0 h0
  refine vx_ofWH (cc := cL_sent) (maxL := 4) (ret := (some .int)) (hh := [(0, 9, 12, 21)]) (by decide +kernel) rfl ?_
  intro p e s m args below meth c s₁ B hml hv
  have htab : c.exceptionTable.toList = tableOf [(0, 9, 12, 21)] := vx_table (x := yL_sent) (y := yL_sent) B (atoms_spec (ws := (wh yL_sent cL_sent 4 (some .int) [(0, 9, 12, 21)])) B.pre _ List.mem_cons_self)
  obtain ⟨C0, hh, hR, rfl⟩ := ent B hml hst hv
  rw [lg_entry_eq]
  have hl := lv_entry ([.ref (ad 0 0), .int x1, .ref (ad 12 0)]) (n := 4) (Nat.le_of_ble_eq_true rfl)
  generalize (lg_sl ([.ref (ad 0 0), .int x1, .ref (ad 12 0)]) ++ List.replicate (4 - (lg_sl ([.ref (ad 0 0), .int x1, .ref (ad 12 0)])).length) Slot.unset).toArray = ls at hl ⊢
  have hl : lv_has ls 4 [(0, .ref (ad 0 0)), (1, .int x1), (2, .ref (ad 12 0))] := hl
  refine (show Sm (QH below _ s D cy n0 ad 1 6) (f_L_sent σ x1) p l e rmL_sent s m _ below meth c s.heap [] 0 0 (F0 m 0 ls []) from ?_) r0 h0
  unfold f_L_sent
  refine s_aload_n C0 dL_sent_0 rfl (lv_at hl 2 rfl) ?_
  refine s_iconst (v := 0) C0 dL_sent_1 (by decide) ?_
  refine s_aload_n C0 dL_sent_2 rfl (lv_at hl 0 rfl) ?_
  refine s_iload_n C0 dL_sent_3 rfl (lv_at hl 1 rfl) ?_
  obtain ⟨q, hq, -⟩ := wd_get (ad := ad) (cy := cy) (σ := σ) (nT := nT) (nO := nO) (rl_b (r := (0, 0)) (by decide))
  refine run_x (vv := vI) (As := .ref (ad 0 0) :: [.int x1]) (rest := [.int 0, .ref (ad 12 0)]) hh (fun r ho => vx_runV (As := [.int x1]) (rest := [.int 0, .ref (ad 12 0)]) C0.1 (c_X3_sent C0.2.2.2.2.2.2 σ x1 r ho) (qc100 C0.1.2.2.2.2 ⟨Nat.le_of_ble_eq_true rfl, Nat.le_of_ble_eq_true rfl⟩) ⟨Pw_blind, va_recv C0.2.2.1 hh.1 (q := (RX3, TX3, 6)) (ci := 3) rfl hq, fun U hU hW => ⟨rfl, hh.pw C0 U hU hW⟩⟩ rfl rfl hl.1 rfl (lv_room (Nat.le_of_ble_eq_true rfl)) dL_sent_4 ⟨Nat.le_of_ble_eq_true rfl, Nat.le_of_ble_eq_true rfl⟩) (fun r x H locs cel q9 hx hh hce hcv hcl => ?_) (fun r1 H locs _ hh => ?_)
  · by_cases e0 : r.1 = 1
    · rw [if_pos e0] at hx; cases hx; rw [e0] at hcl
      refine h_catch C0 [] ⟨0, 9, 12, 21⟩ [] (by rw [htab]; rfl) (fun _ h => nomatch h) (by decide) (by decide) w400 w402 hce hcv hcl ?_
      refine lv_astore_n (lv' := [(3, .ref q9), (0, .ref (ad 0 0)), (1, .int x1), (2, .ref (ad 12 0))]) C0.1.1 C0.1.2.1 dL_sent_12 rfl hl (by decide) rfl (fun ls hl => ?_)
      refine lv_iconst (v := 1) C0.1.1 C0.1.2.1 dL_sent_13 (by decide) ?_
      exact h_ret C0 AdX.rf hh hR (Nat.le_of_ble_eq_true rfl) (Nat.le_of_ble_eq_true rfl) dL_sent_14
    rw [if_neg e0] at hx
    cases hx
  · have hl : lv_has ls 4 [(0, .ref (ad 0 0)), (1, .int x1), (2, .ref (ad 12 0))] := by exact hl
    refine s_i2l C0 dL_sent_7 rfl ?_
    refine s_last C0 hh dL_sent_8 (fun H locs hh => ?_)
    refine s_goto (tgt := 15) C0 dL_sent_9 (by decide) ?_
    refine s_iconst (v := 0) C0 dL_sent_15 (by decide) ?_
    intro r h; cases h; exact h_ret C0 AdX.rf hh hR (Nat.le_of_ble_eq_true rfl) (Nat.le_of_ble_eq_true rfl) dL_sent_16
theorem qc101 {R : Room} {s : State} {args : Array Value} (ht : ∀ w ∈ allw, w.before args s = true) (hR : (rmX3_wornShare).frames + 1 ≤ R.frames ∧ 8 + (4 + 11) + (rmX3_wornShare).locals ≤ R.locals) : CallW R s args RL RX3 123 yX3_wornShare cX3_wornShare 4 (some .float) (wm yX3_wornShare cX3_wornShare 4 (some .float)) rmX3_wornShare 1 6 0 := cwV 0 ht (gd_of (fun _ h => h) _ (mV w522 w524 w525 w64 w523)) rfl rfl rfl (by decide +kernel) hR
def rmL_wornShare : Room := { frames := 7, cells := 1, slots := 6, locals := 113 }
def f_L_wornShare (σ : Sg) : Option (Int32 × Sg) :=
  bx (f_X3_wornShare σ) (fun r1 => (if (FP.f2d r1.1) &&& 0x7fffffffffffffff ≤ 0x7ff0000000000000 then (some (0, svd r1.2 (FP.f2d r1.1))) else none)) (fun x => (if x.1 = 6 then some (1, x.2) else none))
set_option maxRecDepth 100000 in
set_option maxHeartbeats 8000000 in
theorem c_L_wornShare (hst : l.stackTraces = false) (σ : Sg) : CtH l yL_wornShare (wh yL_wornShare cL_wornShare 3 (some .int) [(0, 8, 11, 127)]) rmL_wornShare 1 6 [.ref (ad 0 0), .ref (ad 13 0)] D cy n0 ad nT nO σ (f_L_wornShare σ) := by
  intro r0 h0
  refine vx_ofWH (cc := cL_wornShare) (maxL := 3) (ret := (some .int)) (hh := [(0, 8, 11, 127)]) (by decide +kernel) rfl ?_
  intro p e s m args below meth c s₁ B hml hv
  have htab : c.exceptionTable.toList = tableOf [(0, 8, 11, 127)] := vx_table (x := yL_wornShare) (y := yL_wornShare) B (atoms_spec (ws := (wh yL_wornShare cL_wornShare 3 (some .int) [(0, 8, 11, 127)])) B.pre _ List.mem_cons_self)
  obtain ⟨C0, hh, hR, rfl⟩ := ent B hml hst hv
  rw [lg_entry_eq]
  have hl := lv_entry ([.ref (ad 0 0), .ref (ad 13 0)]) (n := 3) (Nat.le_of_ble_eq_true rfl)
  generalize (lg_sl ([.ref (ad 0 0), .ref (ad 13 0)]) ++ List.replicate (3 - (lg_sl ([.ref (ad 0 0), .ref (ad 13 0)])).length) Slot.unset).toArray = ls at hl ⊢
  have hl : lv_has ls 3 [(0, .ref (ad 0 0)), (1, .ref (ad 13 0))] := hl
  refine (show Sm (QH below _ s D cy n0 ad 1 6) (f_L_wornShare σ) p l e rmL_wornShare s m _ below meth c s.heap [] 0 0 (F0 m 0 ls []) from ?_) r0 h0
  unfold f_L_wornShare
  refine s_aload_n C0 dL_wornShare_0 rfl (lv_at hl 1 rfl) ?_
  refine s_iconst (v := 0) C0 dL_wornShare_1 (by decide) ?_
  refine s_aload_n C0 dL_wornShare_2 rfl (lv_at hl 0 rfl) ?_
  obtain ⟨q, hq, -⟩ := wd_get (ad := ad) (cy := cy) (σ := σ) (nT := nT) (nO := nO) (rl_b (r := (0, 0)) (by decide))
  refine run_x (vv := vF) (As := .ref (ad 0 0) :: []) (rest := [.int 0, .ref (ad 13 0)]) hh (fun r ho => vx_runV (As := []) (rest := [.int 0, .ref (ad 13 0)]) C0.1 (c_X3_wornShare C0.2.2.2.2.2.2 σ r ho) (qc101 C0.1.2.2.2.2 ⟨Nat.le_of_ble_eq_true rfl, Nat.le_of_ble_eq_true rfl⟩) ⟨Pw_blind, va_recv C0.2.2.1 hh.1 (q := (RX3, TX3, 6)) (ci := 3) rfl hq, fun U hU hW => ⟨rfl, hh.pw C0 U hU hW⟩⟩ rfl rfl hl.1 rfl (lv_room (Nat.le_of_ble_eq_true rfl)) dL_wornShare_3 ⟨Nat.le_of_ble_eq_true rfl, Nat.le_of_ble_eq_true rfl⟩) (fun r x H locs cel q9 hx hh hce hcv hcl => ?_) (fun r1 H locs _ hh => ?_)
  · by_cases e0 : r.1 = 6
    · rw [if_pos e0] at hx; cases hx; rw [e0] at hcl
      refine h_catch C0 [] ⟨0, 8, 11, 127⟩ [] (by rw [htab]; rfl) (fun _ h => nomatch h) (by decide) (by decide) w526 w527 hce hcv hcl ?_
      refine lv_astore_n (lv' := [(2, .ref q9), (0, .ref (ad 0 0)), (1, .ref (ad 13 0))]) C0.1.1 C0.1.2.1 dL_wornShare_11 rfl hl (by decide) rfl (fun ls hl => ?_)
      refine lv_iconst (v := 1) C0.1.1 C0.1.2.1 dL_wornShare_12 (by decide) ?_
      exact h_ret C0 AdX.rf hh hR (Nat.le_of_ble_eq_true rfl) (Nat.le_of_ble_eq_true rfl) dL_wornShare_13
    rw [if_neg e0] at hx
    cases hx
  · have hl : lv_has ls 3 [(0, .ref (ad 0 0)), (1, .ref (ad 13 0))] := by exact hl
    refine s_f2d C0 dL_wornShare_6 ?_
    refine s_dast C0 hh dL_wornShare_7 (fun H locs hh => ?_)
    refine s_goto (tgt := 14) C0 dL_wornShare_8 (by decide) ?_
    refine s_iconst (v := 0) C0 dL_wornShare_14 (by decide) ?_
    intro r h; cases h; exact h_ret C0 AdX.rf hh hR (Nat.le_of_ble_eq_true rfl) (Nat.le_of_ble_eq_true rfl) dL_wornShare_15
theorem qc102 {R : Room} {s : State} {args : Array Value} (ht : ∀ w ∈ allw, w.before args s = true) (hR : (rmX3_meanHardness).frames + 1 ≤ R.frames ∧ 8 + (4 + 11) + (rmX3_meanHardness).locals ≤ R.locals) : CallW R s args RL RX3 129 yX3_meanHardness cX3_meanHardness 4 (some .double) (wm yX3_meanHardness cX3_meanHardness 4 (some .double)) rmX3_meanHardness 1 6 0 := cwV 0 ht (gd_of (fun _ h => h) _ (mV w528 w530 w531 w64 w529)) rfl rfl rfl (by decide +kernel) hR
def rmL_meanHardness : Room := { frames := 7, cells := 1, slots := 6, locals := 113 }
def f_L_meanHardness (σ : Sg) : Option (Int32 × Sg) :=
  bx (f_X3_meanHardness σ) (fun r1 => (some (0, svd r1.2 r1.1))) (fun x => (if x.1 = 6 then some (1, x.2) else none))
set_option maxRecDepth 100000 in
set_option maxHeartbeats 8000000 in
theorem c_L_meanHardness (hst : l.stackTraces = false) (σ : Sg) : CtH l yL_meanHardness (wh yL_meanHardness cL_meanHardness 3 (some .int) [(0, 7, 10, 127)]) rmL_meanHardness 1 6 [.ref (ad 0 0), .ref (ad 13 0)] D cy n0 ad nT nO σ (f_L_meanHardness σ) := by
  intro r0 h0
  refine vx_ofWH (cc := cL_meanHardness) (maxL := 3) (ret := (some .int)) (hh := [(0, 7, 10, 127)]) (by decide +kernel) rfl ?_
  intro p e s m args below meth c s₁ B hml hv
  have htab : c.exceptionTable.toList = tableOf [(0, 7, 10, 127)] := vx_table (x := yL_meanHardness) (y := yL_meanHardness) B (atoms_spec (ws := (wh yL_meanHardness cL_meanHardness 3 (some .int) [(0, 7, 10, 127)])) B.pre _ List.mem_cons_self)
  obtain ⟨C0, hh, hR, rfl⟩ := ent B hml hst hv
  rw [lg_entry_eq]
  have hl := lv_entry ([.ref (ad 0 0), .ref (ad 13 0)]) (n := 3) (Nat.le_of_ble_eq_true rfl)
  generalize (lg_sl ([.ref (ad 0 0), .ref (ad 13 0)]) ++ List.replicate (3 - (lg_sl ([.ref (ad 0 0), .ref (ad 13 0)])).length) Slot.unset).toArray = ls at hl ⊢
  have hl : lv_has ls 3 [(0, .ref (ad 0 0)), (1, .ref (ad 13 0))] := hl
  refine (show Sm (QH below _ s D cy n0 ad 1 6) (f_L_meanHardness σ) p l e rmL_meanHardness s m _ below meth c s.heap [] 0 0 (F0 m 0 ls []) from ?_) r0 h0
  unfold f_L_meanHardness
  refine s_aload_n C0 dL_meanHardness_0 rfl (lv_at hl 1 rfl) ?_
  refine s_iconst (v := 0) C0 dL_meanHardness_1 (by decide) ?_
  refine s_aload_n C0 dL_meanHardness_2 rfl (lv_at hl 0 rfl) ?_
  obtain ⟨q, hq, -⟩ := wd_get (ad := ad) (cy := cy) (σ := σ) (nT := nT) (nO := nO) (rl_b (r := (0, 0)) (by decide))
  refine run_x (vv := vD) (As := .ref (ad 0 0) :: []) (rest := [.int 0, .ref (ad 13 0)]) hh (fun r ho => vx_runV (As := []) (rest := [.int 0, .ref (ad 13 0)]) C0.1 (c_X3_meanHardness C0.2.2.2.2.2.2 σ r ho) (qc102 C0.1.2.2.2.2 ⟨Nat.le_of_ble_eq_true rfl, Nat.le_of_ble_eq_true rfl⟩) ⟨Pw_blind, va_recv C0.2.2.1 hh.1 (q := (RX3, TX3, 6)) (ci := 3) rfl hq, fun U hU hW => ⟨rfl, hh.pw C0 U hU hW⟩⟩ rfl rfl hl.1 rfl (lv_room (Nat.le_of_ble_eq_true rfl)) dL_meanHardness_3 ⟨Nat.le_of_ble_eq_true rfl, Nat.le_of_ble_eq_true rfl⟩) (fun r x H locs cel q9 hx hh hce hcv hcl => ?_) (fun r1 H locs _ hh => ?_)
  · by_cases e0 : r.1 = 6
    · rw [if_pos e0] at hx; cases hx; rw [e0] at hcl
      refine h_catch C0 [] ⟨0, 7, 10, 127⟩ [] (by rw [htab]; rfl) (fun _ h => nomatch h) (by decide) (by decide) w526 w527 hce hcv hcl ?_
      refine lv_astore_n (lv' := [(2, .ref q9), (0, .ref (ad 0 0)), (1, .ref (ad 13 0))]) C0.1.1 C0.1.2.1 dL_meanHardness_10 rfl hl (by decide) rfl (fun ls hl => ?_)
      refine lv_iconst (v := 1) C0.1.1 C0.1.2.1 dL_meanHardness_11 (by decide) ?_
      exact h_ret C0 AdX.rf hh hR (Nat.le_of_ble_eq_true rfl) (Nat.le_of_ble_eq_true rfl) dL_meanHardness_12
    rw [if_neg e0] at hx
    cases hx
  · have hl : lv_has ls 3 [(0, .ref (ad 0 0)), (1, .ref (ad 13 0))] := by exact hl
    refine s_dast C0 hh dL_meanHardness_6 (fun H locs hh => ?_)
    refine s_goto (tgt := 13) C0 dL_meanHardness_7 (by decide) ?_
    refine s_iconst (v := 0) C0 dL_meanHardness_13 (by decide) ?_
    intro r h; cases h; exact h_ret C0 AdX.rf hh hR (Nat.le_of_ble_eq_true rfl) (Nat.le_of_ble_eq_true rfl) dL_meanHardness_14
end
