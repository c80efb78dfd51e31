theorem dX12_init_350 : decode cX12_init 350 = .ok (.aload_n 0, 1) := by decide +kernel
theorem dX12_init_351 : decode cX12_init 351 = .ok (.bipush 8, 2) := by decide +kernel
theorem dX12_init_353 : decode cX12_init 353 = .ok (.newarray .int, 2) := by decide +kernel
theorem dX12_init_355 : decode cX12_init 355 = .ok (.putfield 139, 3) := by decide +kernel
theorem dX12_init_358 : decode cX12_init 358 = .ok (.aload_n 0, 1) := by decide +kernel
theorem dX12_init_359 : decode cX12_init 359 = .ok (.sipush 1800, 3) := by decide +kernel
theorem dX12_init_362 : decode cX12_init 362 = .ok (.newarray .long, 2) := by decide +kernel
theorem dX12_init_364 : decode cX12_init 364 = .ok (.putfield 142, 3) := by decide +kernel
theorem dX12_init_367 : decode cX12_init 367 = .ok (.aload_n 0, 1) := by decide +kernel
theorem dX12_init_368 : decode cX12_init 368 = .ok (.sipush 1800, 3) := by decide +kernel
theorem dX12_init_371 : decode cX12_init 371 = .ok (.newarray .int, 2) := by decide +kernel
theorem dX12_init_373 : decode cX12_init 373 = .ok (.putfield 145, 3) := by decide +kernel
theorem dX12_init_376 : decode cX12_init 376 = .ok (.aload_n 0, 1) := by decide +kernel
theorem dX12_init_377 : decode cX12_init 377 = .ok (.bipush 8, 2) := by decide +kernel
theorem dX12_init_379 : decode cX12_init 379 = .ok (.newarray .long, 2) := by decide +kernel
theorem dX12_init_381 : decode cX12_init 381 = .ok (.putfield 148, 3) := by decide +kernel
theorem dX12_init_384 : decode cX12_init 384 = .ok (.aload_n 0, 1) := by decide +kernel
theorem dX12_init_385 : decode cX12_init 385 = .ok (.bipush 8, 2) := by decide +kernel
theorem dX12_init_387 : decode cX12_init 387 = .ok (.newarray .int, 2) := by decide +kernel
theorem dX12_init_389 : decode cX12_init 389 = .ok (.putfield 151, 3) := by decide +kernel
theorem dX12_init_392 : decode cX12_init 392 = .ok (.aload_n 0, 1) := by decide +kernel
theorem dX12_init_393 : decode cX12_init 393 = .ok (.sipush 880, 3) := by decide +kernel
theorem dX12_init_396 : decode cX12_init 396 = .ok (.newarray .byte, 2) := by decide +kernel
theorem dX12_init_398 : decode cX12_init 398 = .ok (.putfield 154, 3) := by decide +kernel
theorem dX12_init_401 : decode cX12_init 401 = .ok (.aload_n 0, 1) := by decide +kernel
theorem dX12_init_402 : decode cX12_init 402 = .ok (.bipush 8, 2) := by decide +kernel
theorem dX12_init_404 : decode cX12_init 404 = .ok (.newarray .int, 2) := by decide +kernel
theorem dX12_init_406 : decode cX12_init 406 = .ok (.putfield 157, 3) := by decide +kernel
theorem dX12_init_409 : decode cX12_init 409 = .ok (.aload_n 0, 1) := by decide +kernel
theorem dX12_init_410 : decode cX12_init 410 = .ok (.bipush 8, 2) := by decide +kernel
theorem dX12_init_412 : decode cX12_init 412 = .ok (.newarray .int, 2) := by decide +kernel
theorem dX12_init_414 : decode cX12_init 414 = .ok (.putfield 160, 3) := by decide +kernel
theorem dX12_init_417 : decode cX12_init 417 = .ok (.aload_n 0, 1) := by decide +kernel
theorem dX12_init_418 : decode cX12_init 418 = .ok (.bipush 8, 2) := by decide +kernel
theorem dX12_init_420 : decode cX12_init 420 = .ok (.newarray .boolean, 2) := by decide +kernel
theorem dX12_init_422 : decode cX12_init 422 = .ok (.putfield 163, 3) := by decide +kernel
theorem dX12_init_425 : decode cX12_init 425 = .ok (.aload_n 0, 1) := by decide +kernel
theorem dX12_init_426 : decode cX12_init 426 = .ok (.bipush 8, 2) := by decide +kernel
theorem dX12_init_428 : decode cX12_init 428 = .ok (.newarray .int, 2) := by decide +kernel
theorem dX12_init_430 : decode cX12_init 430 = .ok (.putfield 166, 3) := by decide +kernel
theorem dX12_init_433 : decode cX12_init 433 = .ok (.aload_n 0, 1) := by decide +kernel
theorem dX12_init_434 : decode cX12_init 434 = .ok (.bipush 8, 2) := by decide +kernel
theorem dX12_init_436 : decode cX12_init 436 = .ok (.newarray .int, 2) := by decide +kernel
theorem dX12_init_438 : decode cX12_init 438 = .ok (.putfield 169, 3) := by decide +kernel
theorem dX12_init_441 : decode cX12_init 441 = .ok (.aload_n 0, 1) := by decide +kernel
theorem dX12_init_442 : decode cX12_init 442 = .ok (.bipush 8, 2) := by decide +kernel
theorem dX12_init_444 : decode cX12_init 444 = .ok (.newarray .int, 2) := by decide +kernel
theorem dX12_init_446 : decode cX12_init 446 = .ok (.putfield 172, 3) := by decide +kernel
theorem dX12_init_449 : decode cX12_init 449 = .ok (.aload_n 0, 1) := by decide +kernel
theorem dX12_init_450 : decode cX12_init 450 = .ok (.bipush 8, 2) := by decide +kernel
theorem dX12_init_452 : decode cX12_init 452 = .ok (.newarray .int, 2) := by decide +kernel
theorem dX12_init_454 : decode cX12_init 454 = .ok (.putfield 175, 3) := by decide +kernel
theorem dX12_init_457 : decode cX12_init 457 = .ok (.aload_n 0, 1) := by decide +kernel
theorem dX12_init_458 : decode cX12_init 458 = .ok (.bipush 8, 2) := by decide +kernel
theorem dX12_init_460 : decode cX12_init 460 = .ok (.newarray .int, 2) := by decide +kernel
theorem dX12_init_462 : decode cX12_init 462 = .ok (.putfield 178, 3) := by decide +kernel
theorem dX12_init_465 : decode cX12_init 465 = .ok (.aload_n 0, 1) := by decide +kernel
theorem dX12_init_466 : decode cX12_init 466 = .ok (.bipush 8, 2) := by decide +kernel
theorem dX12_init_468 : decode cX12_init 468 = .ok (.newarray .int, 2) := by decide +kernel
theorem dX12_init_470 : decode cX12_init 470 = .ok (.putfield 181, 3) := by decide +kernel
theorem dX12_init_473 : decode cX12_init 473 = .ok (.aload_n 0, 1) := by decide +kernel
theorem dX12_init_474 : decode cX12_init 474 = .ok (.bipush 8, 2) := by decide +kernel
theorem dX12_init_476 : decode cX12_init 476 = .ok (.newarray .int, 2) := by decide +kernel
theorem dX12_init_478 : decode cX12_init 478 = .ok (.putfield 184, 3) := by decide +kernel
theorem dX12_init_481 : decode cX12_init 481 = .ok (.aload_n 0, 1) := by decide +kernel
theorem dX12_init_482 : decode cX12_init 482 = .ok (.sipush 160, 3) := by decide +kernel
theorem dX12_init_485 : decode cX12_init 485 = .ok (.newarray .long, 2) := by decide +kernel
theorem dX12_init_487 : decode cX12_init 487 = .ok (.putfield 187, 3) := by decide +kernel
theorem dX12_init_490 : decode cX12_init 490 = .ok (.aload_n 0, 1) := by decide +kernel
theorem dX12_init_491 : decode cX12_init 491 = .ok (.sipush 160, 3) := by decide +kernel
theorem dX12_init_494 : decode cX12_init 494 = .ok (.newarray .boolean, 2) := by decide +kernel
theorem dX12_init_496 : decode cX12_init 496 = .ok (.putfield 190, 3) := by decide +kernel
theorem dX12_init_499 : decode cX12_init 499 = .ok (.aload_n 0, 1) := by decide +kernel
theorem dX12_init_500 : decode cX12_init 500 = .ok (.bipush 8, 2) := by decide +kernel
theorem dX12_init_502 : decode cX12_init 502 = .ok (.newarray .int, 2) := by decide +kernel
theorem dX12_init_504 : decode cX12_init 504 = .ok (.putfield 193, 3) := by decide +kernel
theorem dX12_init_507 : decode cX12_init 507 = .ok (.aload_n 0, 1) := by decide +kernel
theorem dX12_init_508 : decode cX12_init 508 = .ok (.ldc 196, 2) := by decide +kernel
theorem dX12_init_510 : decode cX12_init 510 = .ok (.newarray .byte, 2) := by decide +kernel
theorem dX12_init_512 : decode cX12_init 512 = .ok (.putfield 197, 3) := by decide +kernel
theorem dX12_init_515 : decode cX12_init 515 = .ok (.aload_n 0, 1) := by decide +kernel
theorem dX12_init_516 : decode cX12_init 516 = .ok (.bipush 8, 2) := by decide +kernel
theorem dX12_init_518 : decode cX12_init 518 = .ok (.newarray .int, 2) := by decide +kernel
theorem dX12_init_520 : decode cX12_init 520 = .ok (.putfield 200, 3) := by decide +kernel
theorem dX12_init_523 : decode cX12_init 523 = .ok (.aload_n 0, 1) := by decide +kernel
theorem dX12_init_524 : decode cX12_init 524 = .ok (.sipush 7200, 3) := by decide +kernel
theorem dX12_init_527 : decode cX12_init 527 = .ok (.newarray .long, 2) := by decide +kernel
theorem dX12_init_529 : decode cX12_init 529 = .ok (.putfield 203, 3) := by decide +kernel
theorem dX12_init_532 : decode cX12_init 532 = .ok (.aload_n 0, 1) := by decide +kernel
theorem dX12_init_533 : decode cX12_init 533 = .ok (.ldc 206, 2) := by decide +kernel
theorem dX12_init_535 : decode cX12_init 535 = .ok (.newarray .byte, 2) := by decide +kernel
theorem dX12_init_537 : decode cX12_init 537 = .ok (.putfield 207, 3) := by decide +kernel
theorem dX12_init_540 : decode cX12_init 540 = .ok (.aload_n 0, 1) := by decide +kernel
theorem dX12_init_541 : decode cX12_init 541 = .ok (.ldc 210, 2) := by decide +kernel
theorem dX12_init_543 : decode cX12_init 543 = .ok (.newarray .byte, 2) := by decide +kernel
theorem dX12_init_545 : decode cX12_init 545 = .ok (.putfield 211, 3) := by decide +kernel
theorem dX12_init_548 : decode cX12_init 548 = .ok (.aload_n 0, 1) := by decide +kernel
theorem dX12_init_549 : decode cX12_init 549 = .ok (.sipush 4000, 3) := by decide +kernel
theorem dX12_init_552 : decode cX12_init 552 = .ok (.newarray .byte, 2) := by decide +kernel
theorem dX12_init_554 : decode cX12_init 554 = .ok (.putfield 214, 3) := by decide +kernel
theorem dX12_init_557 : decode cX12_init 557 = .ok (.aload_n 0, 1) := by decide +kernel
theorem dX12_init_558 : decode cX12_init 558 = .ok (.sipush 3100, 3) := by decide +kernel
theorem dX12_init_561 : decode cX12_init 561 = .ok (.newarray .byte, 2) := by decide +kernel
theorem dX12_init_563 : decode cX12_init 563 = .ok (.putfield 217, 3) := by decide +kernel
theorem dX12_init_566 : decode cX12_init 566 = .ok (.aload_n 0, 1) := by decide +kernel
theorem dX12_init_567 : decode cX12_init 567 = .ok (.bipush 24, 2) := by decide +kernel
theorem dX12_init_569 : decode cX12_init 569 = .ok (.newarray .byte, 2) := by decide +kernel
theorem dX12_init_571 : decode cX12_init 571 = .ok (.putfield 220, 3) := by decide +kernel
theorem dX12_init_574 : decode cX12_init 574 = .ok (.aload_n 0, 1) := by decide +kernel
theorem dX12_init_575 : decode cX12_init 575 = .ok (.sipush 260, 3) := by decide +kernel
theorem dX12_init_578 : decode cX12_init 578 = .ok (.newarray .byte, 2) := by decide +kernel
theorem dX12_init_580 : decode cX12_init 580 = .ok (.putfield 223, 3) := by decide +kernel
theorem dX12_init_583 : decode cX12_init 583 = .ok (.aload_n 0, 1) := by decide +kernel
theorem dX12_init_584 : decode cX12_init 584 = .ok (.sipush 300, 3) := by decide +kernel
theorem dX12_init_587 : decode cX12_init 587 = .ok (.newarray .byte, 2) := by decide +kernel
theorem dX12_init_589 : decode cX12_init 589 = .ok (.putfield 226, 3) := by decide +kernel
theorem dX12_init_592 : decode cX12_init 592 = .ok (.aload_n 0, 1) := by decide +kernel
theorem dX12_init_593 : decode cX12_init 593 = .ok (.bipush 110, 2) := by decide +kernel
theorem dX12_init_595 : decode cX12_init 595 = .ok (.newarray .boolean, 2) := by decide +kernel
theorem dX12_init_597 : decode cX12_init 597 = .ok (.putfield 229, 3) := by decide +kernel
theorem dX12_init_600 : decode cX12_init 600 = .ok (.aload_n 0, 1) := by decide +kernel
theorem dX12_init_601 : decode cX12_init 601 = .ok (.bipush 8, 2) := by decide +kernel
theorem dX12_init_603 : decode cX12_init 603 = .ok (.newarray .long, 2) := by decide +kernel
theorem dX12_init_605 : decode cX12_init 605 = .ok (.putfield 232, 3) := by decide +kernel
theorem dX12_init_608 : decode cX12_init 608 = .ok (.aload_n 0, 1) := by decide +kernel
theorem dX12_init_609 : decode cX12_init 609 = .ok (.bipush 25, 2) := by decide +kernel
theorem dX12_init_611 : decode cX12_init 611 = .ok (.newarray .int, 2) := by decide +kernel
theorem dX12_init_613 : decode cX12_init 613 = .ok (.putfield 235, 3) := by decide +kernel
theorem dX12_init_616 : decode cX12_init 616 = .ok (.aload_n 0, 1) := by decide +kernel
theorem dX12_init_617 : decode cX12_init 617 = .ok (.bipush 8, 2) := by decide +kernel
theorem dX12_init_619 : decode cX12_init 619 = .ok (.newarray .int, 2) := by decide +kernel
theorem dX12_init_621 : decode cX12_init 621 = .ok (.putfield 238, 3) := by decide +kernel
theorem dX12_init_624 : decode cX12_init 624 = .ok (.aload_n 0, 1) := by decide +kernel
theorem dX12_init_625 : decode cX12_init 625 = .ok (.bipush 25, 2) := by decide +kernel
theorem dX12_init_627 : decode cX12_init 627 = .ok (.newarray .boolean, 2) := by decide +kernel
theorem dX12_init_629 : decode cX12_init 629 = .ok (.putfield 241, 3) := by decide +kernel
theorem dX12_init_632 : decode cX12_init 632 = .ok (.aload_n 0, 1) := by decide +kernel
theorem dX12_init_633 : decode cX12_init 633 = .ok (.bipush 25, 2) := by decide +kernel
theorem dX12_init_635 : decode cX12_init 635 = .ok (.newarray .int, 2) := by decide +kernel
theorem dX12_init_637 : decode cX12_init 637 = .ok (.putfield 244, 3) := by decide +kernel
theorem dX12_init_640 : decode cX12_init 640 = .ok (.aload_n 0, 1) := by decide +kernel
theorem dX12_init_641 : decode cX12_init 641 = .ok (.bipush 25, 2) := by decide +kernel
theorem dX12_init_643 : decode cX12_init 643 = .ok (.newarray .int, 2) := by decide +kernel
theorem dX12_init_645 : decode cX12_init 645 = .ok (.putfield 247, 3) := by decide +kernel
theorem dX12_init_648 : decode cX12_init 648 = .ok (.aload_n 0, 1) := by decide +kernel
theorem dX12_init_649 : decode cX12_init 649 = .ok (.bipush 25, 2) := by decide +kernel
theorem dX12_init_651 : decode cX12_init 651 = .ok (.newarray .int, 2) := by decide +kernel
theorem dX12_init_653 : decode cX12_init 653 = .ok (.putfield 250, 3) := by decide +kernel
theorem dX12_init_656 : decode cX12_init 656 = .ok (.aload_n 0, 1) := by decide +kernel
theorem dX12_init_657 : decode cX12_init 657 = .ok (.bipush 25, 2) := by decide +kernel
theorem dX12_init_659 : decode cX12_init 659 = .ok (.newarray .int, 2) := by decide +kernel
theorem dX12_init_661 : decode cX12_init 661 = .ok (.putfield 253, 3) := by decide +kernel
theorem dX12_init_664 : decode cX12_init 664 = .ok (.aload_n 0, 1) := by decide +kernel
theorem dX12_init_665 : decode cX12_init 665 = .ok (.bipush 25, 2) := by decide +kernel
theorem dX12_init_667 : decode cX12_init 667 = .ok (.newarray .int, 2) := by decide +kernel
theorem dX12_init_669 : decode cX12_init 669 = .ok (.putfield 256, 3) := by decide +kernel
theorem dX12_init_672 : decode cX12_init 672 = .ok (.aload_n 0, 1) := by decide +kernel
theorem dX12_init_673 : decode cX12_init 673 = .ok (.ldc_w 259, 3) := by decide +kernel
theorem dX12_init_676 : decode cX12_init 676 = .ok (.newarray .byte, 2) := by decide +kernel
theorem dX12_init_678 : decode cX12_init 678 = .ok (.putfield 260, 3) := by decide +kernel
set_option maxHeartbeats 8000000 in
set_option maxRecDepth 100000 in
/-- a piece of MumpsHouseModel() -/
theorem sg_4 {p : Program} {l : Launch} {e : Env} {R : Room} {s : State} {m : MethodId} {args : Array Value} {below : List Frame} {meth : Method} {c : Code} {Q : State → Prop} {A : Nat → Prop} {D : va_G} {x : Nat → ClassId} {h0 : Nat} (hx : p.tables.exec = Jvm.exec) (hb : c.code = cX12_init) (hts : ∀ w ∈ (.code yX12_init cX12_init 2 none :: zW : List Cond), w.before args s = true) (hown : s.vm.findClass RX12 = some m.cls) (hin : meth.name = "<init>") (hZ : zK x D s) (hA : ∀ q, s.heap.size ≤ q → A q) (hc : 50 ≤ R.cells) (hsl : 1571625 ≤ R.slots) {rest : va_W} {f : Nat → Value} {H : Heap} {locs : List Loc} {ls : Array Slot} (hP : va_P D vwCl ((h0, .inr (12, zf 212 f)) :: rest) H) (hD : va_D A ((h0, .inr (12, zf 212 f)) :: rest)) (hS : va_S A s.heap H locs) (hl : lv_has ls 2 [(0, .ref h0)])
    (kk : ∀ (f' : Nat → Value) (q_1 q_5 q_9 q_13 q_17 q_21 q_25 q_29 q_33 q_37 : Nat) (H : Heap) (locs : List Loc), f' 60 = .ref q_1 → f' 61 = .ref q_5 → f' 62 = .ref q_9 → f' 63 = .ref q_13 → f' 64 = .ref q_17 → f' 65 = .ref q_21 → f' 66 = .ref q_25 → f' 67 = .ref q_29 → f' 68 = .ref q_33 → f' 69 = .ref q_37 → (∀ j, (∀ k ∈ [60, 61, 62, 63, 64, 65, 66, 67, 68, 69], j ≠ k) → f' j = f j) → va_P D vwCl ((h0, .inr (12, zf 212 f')) :: (rest ++ [(q_1, .inl (x 0, 8, .inl (fun _ => 0))), (q_5, .inl (x 2, 1800, .inr (.inl (fun _ => 0)))), (q_9, .inl (x 0, 1800, .inl (fun _ => 0))), (q_13, .inl (x 2, 8, .inr (.inl (fun _ => 0)))), (q_17, .inl (x 0, 8, .inl (fun _ => 0))), (q_21, .inl (x 1, 880, .inl (fun _ => 0))), (q_25, .inl (x 0, 8, .inl (fun _ => 0))), (q_29, .inl (x 0, 8, .inl (fun _ => 0))), (q_33, .inl (x 3, 8, .inl (fun _ => 0))), (q_37, .inl (x 0, 8, .inl (fun _ => 0)))])) H → va_D A ((h0, .inr (12, zf 212 f')) :: (rest ++ [(q_1, .inl (x 0, 8, .inl (fun _ => 0))), (q_5, .inl (x 2, 1800, .inr (.inl (fun _ => 0)))), (q_9, .inl (x 0, 1800, .inl (fun _ => 0))), (q_13, .inl (x 2, 8, .inr (.inl (fun _ => 0)))), (q_17, .inl (x 0, 8, .inl (fun _ => 0))), (q_21, .inl (x 1, 880, .inl (fun _ => 0))), (q_25, .inl (x 0, 8, .inl (fun _ => 0))), (q_29, .inl (x 0, 8, .inl (fun _ => 0))), (q_33, .inl (x 3, 8, .inl (fun _ => 0))), (q_37, .inl (x 0, 8, .inl (fun _ => 0)))])) → va_S A s.heap H locs → lv_has ls 2 [(0, .ref h0)] → W p l e R s m args below meth c H locs 50 1571625 Q (F0 m 433 ls [])) :
    W p l e R s m args below meth c H locs 40 1567089 Q (F0 m 350 ls []) := by
  have hK := hZ.1
  refine lv_aload_n hx hb dX12_init_350 rfl (lv_at hl 0 rfl) ?_
  refine lv_bipush (v := 8) hx hb dX12_init_351 (by decide) ?_
  refine z_newa (atype := .int) (ty := .int) (a0 := (8, .inl (fun _ => 0))) hx hb (hts _ (zm_2 _)) rfl hK 0 rfl hP hD hS hA (fun cA => rfl) (by decide) (by decide) (by decide) (Nat.le_trans (Nat.le_of_ble_eq_true rfl) hc) (Nat.le_trans (Nat.le_of_ble_eq_true rfl) hsl) dX12_init_353 (fun q_1 H hP hD hS => ?_)
  rw [List.cons_append] at hP hD
  refine W.widen (k := 41) (n := 1567097) (Nat.le_of_ble_eq_true rfl) (Nat.le_of_ble_eq_true rfl) ?_
  refine y_putF (T := TX12) (N := 212) (ci := 12) hx hb hts (zi_12 _) hown hK hP hD hS 0 rfl rfl 60 (by decide) tX12_60 uX12_60 (hts _ (zm_508 _)) rfl hin rfl rfl rfl dX12_init_355 (fun H locs f_2 ek_3 ok_4 hP hD hS => ?_)
  rw [List.set_cons_zero] at hP hD
  refine lv_aload_n hx hb dX12_init_358 rfl (lv_at hl 0 rfl) ?_
  refine lv_sipush (v := 1800) hx hb dX12_init_359 (by decide) ?_
  refine z_newa (atype := .long) (ty := .long) (a0 := (1800, .inr (.inl (fun _ => 0)))) hx hb (hts _ (zm_4 _)) rfl hK 2 rfl hP hD hS hA (fun cA => rfl) (by decide) (by decide) (by decide) (Nat.le_trans (Nat.le_of_ble_eq_true rfl) hc) (Nat.le_trans (Nat.le_of_ble_eq_true rfl) hsl) dX12_init_362 (fun q_5 H hP hD hS => ?_)
  rw [List.cons_append] at hP hD
  refine W.widen (k := 42) (n := 1568897) (Nat.le_of_ble_eq_true rfl) (Nat.le_of_ble_eq_true rfl) ?_
  refine y_putF (T := TX12) (N := 212) (ci := 12) hx hb hts (zi_12 _) hown hK hP hD hS 0 rfl rfl 61 (by decide) tX12_61 uX12_61 (hts _ (zm_509 _)) rfl hin rfl rfl rfl dX12_init_364 (fun H locs f_6 ek_7 ok_8 hP hD hS => ?_)
  rw [List.set_cons_zero] at hP hD
  refine lv_aload_n hx hb dX12_init_367 rfl (lv_at hl 0 rfl) ?_
  refine lv_sipush (v := 1800) hx hb dX12_init_368 (by decide) ?_
  refine z_newa (atype := .int) (ty := .int) (a0 := (1800, .inl (fun _ => 0))) hx hb (hts _ (zm_2 _)) rfl hK 0 rfl hP hD hS hA (fun cA => rfl) (by decide) (by decide) (by decide) (Nat.le_trans (Nat.le_of_ble_eq_true rfl) hc) (Nat.le_trans (Nat.le_of_ble_eq_true rfl) hsl) dX12_init_371 (fun q_9 H hP hD hS => ?_)
  rw [List.cons_append] at hP hD
  refine W.widen (k := 43) (n := 1570697) (Nat.le_of_ble_eq_true rfl) (Nat.le_of_ble_eq_true rfl) ?_
  refine y_putF (T := TX12) (N := 212) (ci := 12) hx hb hts (zi_12 _) hown hK hP hD hS 0 rfl rfl 62 (by decide) tX12_62 uX12_62 (hts _ (zm_510 _)) rfl hin rfl rfl rfl dX12_init_373 (fun H locs f_10 ek_11 ok_12 hP hD hS => ?_)
  rw [List.set_cons_zero] at hP hD
  refine lv_aload_n hx hb dX12_init_376 rfl (lv_at hl 0 rfl) ?_
  refine lv_bipush (v := 8) hx hb dX12_init_377 (by decide) ?_
  refine z_newa (atype := .long) (ty := .long) (a0 := (8, .inr (.inl (fun _ => 0)))) hx hb (hts _ (zm_4 _)) rfl hK 2 rfl hP hD hS hA (fun cA => rfl) (by decide) (by decide) (by decide) (Nat.le_trans (Nat.le_of_ble_eq_true rfl) hc) (Nat.le_trans (Nat.le_of_ble_eq_true rfl) hsl) dX12_init_379 (fun q_13 H hP hD hS => ?_)
  rw [List.cons_append] at hP hD
  refine W.widen (k := 44) (n := 1570705) (Nat.le_of_ble_eq_true rfl) (Nat.le_of_ble_eq_true rfl) ?_
  refine y_putF (T := TX12) (N := 212) (ci := 12) hx hb hts (zi_12 _) hown hK hP hD hS 0 rfl rfl 63 (by decide) tX12_63 uX12_63 (hts _ (zm_511 _)) rfl hin rfl rfl rfl dX12_init_381 (fun H locs f_14 ek_15 ok_16 hP hD hS => ?_)
  rw [List.set_cons_zero] at hP hD
  refine lv_aload_n hx hb dX12_init_384 rfl (lv_at hl 0 rfl) ?_
  refine lv_bipush (v := 8) hx hb dX12_init_385 (by decide) ?_
  refine z_newa (atype := .int) (ty := .int) (a0 := (8, .inl (fun _ => 0))) hx hb (hts _ (zm_2 _)) rfl hK 0 rfl hP hD hS hA (fun cA => rfl) (by decide) (by decide) (by decide) (Nat.le_trans (Nat.le_of_ble_eq_true rfl) hc) (Nat.le_trans (Nat.le_of_ble_eq_true rfl) hsl) dX12_init_387 (fun q_17 H hP hD hS => ?_)
  rw [List.cons_append] at hP hD
  refine W.widen (k := 45) (n := 1570713) (Nat.le_of_ble_eq_true rfl) (Nat.le_of_ble_eq_true rfl) ?_
  refine y_putF (T := TX12) (N := 212) (ci := 12) hx hb hts (zi_12 _) hown hK hP hD hS 0 rfl rfl 64 (by decide) tX12_64 uX12_64 (hts _ (zm_512 _)) rfl hin rfl rfl rfl dX12_init_389 (fun H locs f_18 ek_19 ok_20 hP hD hS => ?_)
  rw [List.set_cons_zero] at hP hD
  refine lv_aload_n hx hb dX12_init_392 rfl (lv_at hl 0 rfl) ?_
  refine lv_sipush (v := 880) hx hb dX12_init_393 (by decide) ?_
  refine z_newa (atype := .byte) (ty := .byte) (a0 := (880, .inl (fun _ => 0))) hx hb (hts _ (zm_3 _)) rfl hK 1 rfl hP hD hS hA (fun cA => rfl) (by decide) (by decide) (by decide) (Nat.le_trans (Nat.le_of_ble_eq_true rfl) hc) (Nat.le_trans (Nat.le_of_ble_eq_true rfl) hsl) dX12_init_396 (fun q_21 H hP hD hS => ?_)
  rw [List.cons_append] at hP hD
  refine W.widen (k := 46) (n := 1571593) (Nat.le_of_ble_eq_true rfl) (Nat.le_of_ble_eq_true rfl) ?_
  refine y_putF (T := TX12) (N := 212) (ci := 12) hx hb hts (zi_12 _) hown hK hP hD hS 0 rfl rfl 65 (by decide) tX12_65 uX12_65 (hts _ (zm_513 _)) rfl hin rfl rfl rfl dX12_init_398 (fun H locs f_22 ek_23 ok_24 hP hD hS => ?_)
  rw [List.set_cons_zero] at hP hD
  refine lv_aload_n hx hb dX12_init_401 rfl (lv_at hl 0 rfl) ?_
  refine lv_bipush (v := 8) hx hb dX12_init_402 (by decide) ?_
  refine z_newa (atype := .int) (ty := .int) (a0 := (8, .inl (fun _ => 0))) hx hb (hts _ (zm_2 _)) rfl hK 0 rfl hP hD hS hA (fun cA => rfl) (by decide) (by decide) (by decide) (Nat.le_trans (Nat.le_of_ble_eq_true rfl) hc) (Nat.le_trans (Nat.le_of_ble_eq_true rfl) hsl) dX12_init_404 (fun q_25 H hP hD hS => ?_)
  rw [List.cons_append] at hP hD
  refine W.widen (k := 47) (n := 1571601) (Nat.le_of_ble_eq_true rfl) (Nat.le_of_ble_eq_true rfl) ?_
  refine y_putF (T := TX12) (N := 212) (ci := 12) hx hb hts (zi_12 _) hown hK hP hD hS 0 rfl rfl 66 (by decide) tX12_66 uX12_66 (hts _ (zm_514 _)) rfl hin rfl rfl rfl dX12_init_406 (fun H locs f_26 ek_27 ok_28 hP hD hS => ?_)
  rw [List.set_cons_zero] at hP hD
  refine lv_aload_n hx hb dX12_init_409 rfl (lv_at hl 0 rfl) ?_
  refine lv_bipush (v := 8) hx hb dX12_init_410 (by decide) ?_
  refine z_newa (atype := .int) (ty := .int) (a0 := (8, .inl (fun _ => 0))) hx hb (hts _ (zm_2 _)) rfl hK 0 rfl hP hD hS hA (fun cA => rfl) (by decide) (by decide) (by decide) (Nat.le_trans (Nat.le_of_ble_eq_true rfl) hc) (Nat.le_trans (Nat.le_of_ble_eq_true rfl) hsl) dX12_init_412 (fun q_29 H hP hD hS => ?_)
  rw [List.cons_append] at hP hD
  refine W.widen (k := 48) (n := 1571609) (Nat.le_of_ble_eq_true rfl) (Nat.le_of_ble_eq_true rfl) ?_
  refine y_putF (T := TX12) (N := 212) (ci := 12) hx hb hts (zi_12 _) hown hK hP hD hS 0 rfl rfl 67 (by decide) tX12_67 uX12_67 (hts _ (zm_515 _)) rfl hin rfl rfl rfl dX12_init_414 (fun H locs f_30 ek_31 ok_32 hP hD hS => ?_)
  rw [List.set_cons_zero] at hP hD
  refine lv_aload_n hx hb dX12_init_417 rfl (lv_at hl 0 rfl) ?_
  refine lv_bipush (v := 8) hx hb dX12_init_418 (by decide) ?_
  refine z_newa (atype := .boolean) (ty := .boolean) (a0 := (8, .inl (fun _ => 0))) hx hb (hts _ (zm_5 _)) rfl hK 3 rfl hP hD hS hA (fun cA => rfl) (by decide) (by decide) (by decide) (Nat.le_trans (Nat.le_of_ble_eq_true rfl) hc) (Nat.le_trans (Nat.le_of_ble_eq_true rfl) hsl) dX12_init_420 (fun q_33 H hP hD hS => ?_)
  rw [List.cons_append] at hP hD
  refine W.widen (k := 49) (n := 1571617) (Nat.le_of_ble_eq_true rfl) (Nat.le_of_ble_eq_true rfl) ?_
  refine y_putF (T := TX12) (N := 212) (ci := 12) hx hb hts (zi_12 _) hown hK hP hD hS 0 rfl rfl 68 (by decide) tX12_68 uX12_68 (hts _ (zm_516 _)) rfl hin rfl rfl rfl dX12_init_422 (fun H locs f_34 ek_35 ok_36 hP hD hS => ?_)
  rw [List.set_cons_zero] at hP hD
  refine lv_aload_n hx hb dX12_init_425 rfl (lv_at hl 0 rfl) ?_
  refine lv_bipush (v := 8) hx hb dX12_init_426 (by decide) ?_
  refine z_newa (atype := .int) (ty := .int) (a0 := (8, .inl (fun _ => 0))) hx hb (hts _ (zm_2 _)) rfl hK 0 rfl hP hD hS hA (fun cA => rfl) (by decide) (by decide) (by decide) (Nat.le_trans (Nat.le_of_ble_eq_true rfl) hc) (Nat.le_trans (Nat.le_of_ble_eq_true rfl) hsl) dX12_init_428 (fun q_37 H hP hD hS => ?_)
  rw [List.cons_append] at hP hD
  refine W.widen (k := 50) (n := 1571625) (Nat.le_of_ble_eq_true rfl) (Nat.le_of_ble_eq_true rfl) ?_
  refine y_putF (T := TX12) (N := 212) (ci := 12) hx hb hts (zi_12 _) hown hK hP hD hS 0 rfl rfl 69 (by decide) tX12_69 uX12_69 (hts _ (zm_517 _)) rfl hin rfl rfl rfl dX12_init_430 (fun H locs f_38 ek_39 ok_40 hP hD hS => ?_)
  rw [List.set_cons_zero] at hP hD
  simp only [List.append_assoc, List.cons_append, List.nil_append] at hP hD
  exact kk f_38 q_1 q_5 q_9 q_13 q_17 q_21 q_25 q_29 q_33 q_37 H locs ((ok_40 60 (by decide)).trans ((ok_36 60 (by decide)).trans ((ok_32 60 (by decide)).trans ((ok_28 60 (by decide)).trans ((ok_24 60 (by decide)).trans ((ok_20 60 (by decide)).trans ((ok_16 60 (by decide)).trans ((ok_12 60 (by decide)).trans ((ok_8 60 (by decide)).trans ek_3))))))))) ((ok_40 61 (by decide)).trans ((ok_36 61 (by decide)).trans ((ok_32 61 (by decide)).trans ((ok_28 61 (by decide)).trans ((ok_24 61 (by decide)).trans ((ok_20 61 (by decide)).trans ((ok_16 61 (by decide)).trans ((ok_12 61 (by decide)).trans ek_7)))))))) ((ok_40 62 (by decide)).trans ((ok_36 62 (by decide)).trans ((ok_32 62 (by decide)).trans ((ok_28 62 (by decide)).trans ((ok_24 62 (by decide)).trans ((ok_20 62 (by decide)).trans ((ok_16 62 (by decide)).trans ek_11))))))) ((ok_40 63 (by decide)).trans ((ok_36 63 (by decide)).trans ((ok_32 63 (by decide)).trans ((ok_28 63 (by decide)).trans ((ok_24 63 (by decide)).trans ((ok_20 63 (by decide)).trans ek_15)))))) ((ok_40 64 (by decide)).trans ((ok_36 64 (by decide)).trans ((ok_32 64 (by decide)).trans ((ok_28 64 (by decide)).trans ((ok_24 64 (by decide)).trans ek_19))))) ((ok_40 65 (by decide)).trans ((ok_36 65 (by decide)).trans ((ok_32 65 (by decide)).trans ((ok_28 65 (by decide)).trans ek_23)))) ((ok_40 66 (by decide)).trans ((ok_36 66 (by decide)).trans ((ok_32 66 (by decide)).trans ek_27))) ((ok_40 67 (by decide)).trans ((ok_36 67 (by decide)).trans ek_31)) ((ok_40 68 (by decide)).trans ek_35) ek_39 (fun j hj => ((ok_40 j (hj 69 (by decide))).trans ((ok_36 j (hj 68 (by decide))).trans ((ok_32 j (hj 67 (by decide))).trans ((ok_28 j (hj 66 (by decide))).trans ((ok_24 j (hj 65 (by decide))).trans ((ok_20 j (hj 64 (by decide))).trans ((ok_16 j (hj 63 (by decide))).trans ((ok_12 j (hj 62 (by decide))).trans ((ok_8 j (hj 61 (by decide))).trans ((ok_4 j (hj 60 (by decide))).trans rfl))))))))))) hP hD hS hl

set_option maxHeartbeats 8000000 in
set_option maxRecDepth 100000 in
/-- a piece of MumpsHouseModel() -/
theorem sg_5 {p : Program} {l : Launch} {e : Env} {R : Room} {s : State} {m : MethodId} {args : Array Value} {below : List Frame} {meth : Method} {c : Code} {Q : State → Prop} {A : Nat → Prop} {D : va_G} {x : Nat → ClassId} {h0 : Nat} (hx : p.tables.exec = Jvm.exec) (hb : c.code = cX12_init) (hts : ∀ w ∈ (.code yX12_init cX12_init 2 none :: zW : List Cond), w.before args s = true) (hown : s.vm.findClass RX12 = some m.cls) (hin : meth.name = "<init>") (hZ : zK x D s) (hA : ∀ q, s.heap.size ≤ q → A q) (hc : 60 ≤ R.cells) (hsl : 1620001 ≤ R.slots) {rest : va_W} {f : Nat → Value} {H : Heap} {locs : List Loc} {ls : Array Slot} (hP : va_P D vwCl ((h0, .inr (12, zf 212 f)) :: rest) H) (hD : va_D A ((h0, .inr (12, zf 212 f)) :: rest)) (hS : va_S A s.heap H locs) (hl : lv_has ls 2 [(0, .ref h0)])
    (kk : ∀ (f' : Nat → Value) (q_1 q_5 q_9 q_13 q_17 q_21 q_25 q_29 q_33 q_37 : Nat) (H : Heap) (locs : List Loc), f' 70 = .ref q_1 → f' 71 = .ref q_5 → f' 72 = .ref q_9 → f' 73 = .ref q_13 → f' 74 = .ref q_17 → f' 75 = .ref q_21 → f' 76 = .ref q_25 → f' 77 = .ref q_29 → f' 78 = .ref q_33 → f' 79 = .ref q_37 → (∀ j, (∀ k ∈ [70, 71, 72, 73, 74, 75, 76, 77, 78, 79], j ≠ k) → f' j = f j) → va_P D vwCl ((h0, .inr (12, zf 212 f')) :: (rest ++ [(q_1, .inl (x 0, 8, .inl (fun _ => 0))), (q_5, .inl (x 0, 8, .inl (fun _ => 0))), (q_9, .inl (x 0, 8, .inl (fun _ => 0))), (q_13, .inl (x 0, 8, .inl (fun _ => 0))), (q_17, .inl (x 0, 8, .inl (fun _ => 0))), (q_21, .inl (x 0, 8, .inl (fun _ => 0))), (q_25, .inl (x 2, 160, .inr (.inl (fun _ => 0)))), (q_29, .inl (x 3, 160, .inl (fun _ => 0))), (q_33, .inl (x 0, 8, .inl (fun _ => 0))), (q_37, .inl (x 1, 48000, .inl (fun _ => 0)))])) H → va_D A ((h0, .inr (12, zf 212 f')) :: (rest ++ [(q_1, .inl (x 0, 8, .inl (fun _ => 0))), (q_5, .inl (x 0, 8, .inl (fun _ => 0))), (q_9, .inl (x 0, 8, .inl (fun _ => 0))), (q_13, .inl (x 0, 8, .inl (fun _ => 0))), (q_17, .inl (x 0, 8, .inl (fun _ => 0))), (q_21, .inl (x 0, 8, .inl (fun _ => 0))), (q_25, .inl (x 2, 160, .inr (.inl (fun _ => 0)))), (q_29, .inl (x 3, 160, .inl (fun _ => 0))), (q_33, .inl (x 0, 8, .inl (fun _ => 0))), (q_37, .inl (x 1, 48000, .inl (fun _ => 0)))])) → va_S A s.heap H locs → lv_has ls 2 [(0, .ref h0)] → W p l e R s m args below meth c H locs 60 1620001 Q (F0 m 515 ls [])) :
    W p l e R s m args below meth c H locs 50 1571625 Q (F0 m 433 ls []) := by
  have hK := hZ.1
  refine lv_aload_n hx hb dX12_init_433 rfl (lv_at hl 0 rfl) ?_
  refine lv_bipush (v := 8) hx hb dX12_init_434 (by decide) ?_
  refine z_newa (atype := .int) (ty := .int) (a0 := (8, .inl (fun _ => 0))) hx hb (hts _ (zm_2 _)) rfl hK 0 rfl hP hD hS hA (fun cA => rfl) (by decide) (by decide) (by decide) (Nat.le_trans (Nat.le_of_ble_eq_true rfl) hc) (Nat.le_trans (Nat.le_of_ble_eq_true rfl) hsl) dX12_init_436 (fun q_1 H hP hD hS => ?_)
  rw [List.cons_append] at hP hD
  refine W.widen (k := 51) (n := 1571633) (Nat.le_of_ble_eq_true rfl) (Nat.le_of_ble_eq_true rfl) ?_
  refine y_putF (T := TX12) (N := 212) (ci := 12) hx hb hts (zi_12 _) hown hK hP hD hS 0 rfl rfl 70 (by decide) tX12_70 uX12_70 (hts _ (zm_518 _)) rfl hin rfl rfl rfl dX12_init_438 (fun H locs f_2 ek_3 ok_4 hP hD hS => ?_)
  rw [List.set_cons_zero] at hP hD
  refine lv_aload_n hx hb dX12_init_441 rfl (lv_at hl 0 rfl) ?_
  refine lv_bipush (v := 8) hx hb dX12_init_442 (by decide) ?_
  refine z_newa (atype := .int) (ty := .int) (a0 := (8, .inl (fun _ => 0))) hx hb (hts _ (zm_2 _)) rfl hK 0 rfl hP hD hS hA (fun cA => rfl) (by decide) (by decide) (by decide) (Nat.le_trans (Nat.le_of_ble_eq_true rfl) hc) (Nat.le_trans (Nat.le_of_ble_eq_true rfl) hsl) dX12_init_444 (fun q_5 H hP hD hS => ?_)
  rw [List.cons_append] at hP hD
  refine W.widen (k := 52) (n := 1571641) (Nat.le_of_ble_eq_true rfl) (Nat.le_of_ble_eq_true rfl) ?_
  refine y_putF (T := TX12) (N := 212) (ci := 12) hx hb hts (zi_12 _) hown hK hP hD hS 0 rfl rfl 71 (by decide) tX12_71 uX12_71 (hts _ (zm_519 _)) rfl hin rfl rfl rfl dX12_init_446 (fun H locs f_6 ek_7 ok_8 hP hD hS => ?_)
  rw [List.set_cons_zero] at hP hD
  refine lv_aload_n hx hb dX12_init_449 rfl (lv_at hl 0 rfl) ?_
  refine lv_bipush (v := 8) hx hb dX12_init_450 (by decide) ?_
  refine z_newa (atype := .int) (ty := .int) (a0 := (8, .inl (fun _ => 0))) hx hb (hts _ (zm_2 _)) rfl hK 0 rfl hP hD hS hA (fun cA => rfl) (by decide) (by decide) (by decide) (Nat.le_trans (Nat.le_of_ble_eq_true rfl) hc) (Nat.le_trans (Nat.le_of_ble_eq_true rfl) hsl) dX12_init_452 (fun q_9 H hP hD hS => ?_)
  rw [List.cons_append] at hP hD
  refine W.widen (k := 53) (n := 1571649) (Nat.le_of_ble_eq_true rfl) (Nat.le_of_ble_eq_true rfl) ?_
  refine y_putF (T := TX12) (N := 212) (ci := 12) hx hb hts (zi_12 _) hown hK hP hD hS 0 rfl rfl 72 (by decide) tX12_72 uX12_72 (hts _ (zm_520 _)) rfl hin rfl rfl rfl dX12_init_454 (fun H locs f_10 ek_11 ok_12 hP hD hS => ?_)
  rw [List.set_cons_zero] at hP hD
  refine lv_aload_n hx hb dX12_init_457 rfl (lv_at hl 0 rfl) ?_
  refine lv_bipush (v := 8) hx hb dX12_init_458 (by decide) ?_
  refine z_newa (atype := .int) (ty := .int) (a0 := (8, .inl (fun _ => 0))) hx hb (hts _ (zm_2 _)) rfl hK 0 rfl hP hD hS hA (fun cA => rfl) (by decide) (by decide) (by decide) (Nat.le_trans (Nat.le_of_ble_eq_true rfl) hc) (Nat.le_trans (Nat.le_of_ble_eq_true rfl) hsl) dX12_init_460 (fun q_13 H hP hD hS => ?_)
  rw [List.cons_append] at hP hD
  refine W.widen (k := 54) (n := 1571657) (Nat.le_of_ble_eq_true rfl) (Nat.le_of_ble_eq_true rfl) ?_
  refine y_putF (T := TX12) (N := 212) (ci := 12) hx hb hts (zi_12 _) hown hK hP hD hS 0 rfl rfl 73 (by decide) tX12_73 uX12_73 (hts _ (zm_521 _)) rfl hin rfl rfl rfl dX12_init_462 (fun H locs f_14 ek_15 ok_16 hP hD hS => ?_)
  rw [List.set_cons_zero] at hP hD
  refine lv_aload_n hx hb dX12_init_465 rfl (lv_at hl 0 rfl) ?_
  refine lv_bipush (v := 8) hx hb dX12_init_466 (by decide) ?_
  refine z_newa (atype := .int) (ty := .int) (a0 := (8, .inl (fun _ => 0))) hx hb (hts _ (zm_2 _)) rfl hK 0 rfl hP hD hS hA (fun cA => rfl) (by decide) (by decide) (by decide) (Nat.le_trans (Nat.le_of_ble_eq_true rfl) hc) (Nat.le_trans (Nat.le_of_ble_eq_true rfl) hsl) dX12_init_468 (fun q_17 H hP hD hS => ?_)
  rw [List.cons_append] at hP hD
  refine W.widen (k := 55) (n := 1571665) (Nat.le_of_ble_eq_true rfl) (Nat.le_of_ble_eq_true rfl) ?_
  refine y_putF (T := TX12) (N := 212) (ci := 12) hx hb hts (zi_12 _) hown hK hP hD hS 0 rfl rfl 74 (by decide) tX12_74 uX12_74 (hts _ (zm_522 _)) rfl hin rfl rfl rfl dX12_init_470 (fun H locs f_18 ek_19 ok_20 hP hD hS => ?_)
  rw [List.set_cons_zero] at hP hD
  refine lv_aload_n hx hb dX12_init_473 rfl (lv_at hl 0 rfl) ?_
  refine lv_bipush (v := 8) hx hb dX12_init_474 (by decide) ?_
  refine z_newa (atype := .int) (ty := .int) (a0 := (8, .inl (fun _ => 0))) hx hb (hts _ (zm_2 _)) rfl hK 0 rfl hP hD hS hA (fun cA => rfl) (by decide) (by decide) (by decide) (Nat.le_trans (Nat.le_of_ble_eq_true rfl) hc) (Nat.le_trans (Nat.le_of_ble_eq_true rfl) hsl) dX12_init_476 (fun q_21 H hP hD hS => ?_)
  rw [List.cons_append] at hP hD
  refine W.widen (k := 56) (n := 1571673) (Nat.le_of_ble_eq_true rfl) (Nat.le_of_ble_eq_true rfl) ?_
  refine y_putF (T := TX12) (N := 212) (ci := 12) hx hb hts (zi_12 _) hown hK hP hD hS 0 rfl rfl 75 (by decide) tX12_75 uX12_75 (hts _ (zm_523 _)) rfl hin rfl rfl rfl dX12_init_478 (fun H locs f_22 ek_23 ok_24 hP hD hS => ?_)
  rw [List.set_cons_zero] at hP hD
  refine lv_aload_n hx hb dX12_init_481 rfl (lv_at hl 0 rfl) ?_
  refine lv_sipush (v := 160) hx hb dX12_init_482 (by decide) ?_
  refine z_newa (atype := .long) (ty := .long) (a0 := (160, .inr (.inl (fun _ => 0)))) hx hb (hts _ (zm_4 _)) rfl hK 2 rfl hP hD hS hA (fun cA => rfl) (by decide) (by decide) (by decide) (Nat.le_trans (Nat.le_of_ble_eq_true rfl) hc) (Nat.le_trans (Nat.le_of_ble_eq_true rfl) hsl) dX12_init_485 (fun q_25 H hP hD hS => ?_)
  rw [List.cons_append] at hP hD
  refine W.widen (k := 57) (n := 1571833) (Nat.le_of_ble_eq_true rfl) (Nat.le_of_ble_eq_true rfl) ?_
  refine y_putF (T := TX12) (N := 212) (ci := 12) hx hb hts (zi_12 _) hown hK hP hD hS 0 rfl rfl 76 (by decide) tX12_76 uX12_76 (hts _ (zm_524 _)) rfl hin rfl rfl rfl dX12_init_487 (fun H locs f_26 ek_27 ok_28 hP hD hS => ?_)
  rw [List.set_cons_zero] at hP hD
  refine lv_aload_n hx hb dX12_init_490 rfl (lv_at hl 0 rfl) ?_
  refine lv_sipush (v := 160) hx hb dX12_init_491 (by decide) ?_
  refine z_newa (atype := .boolean) (ty := .boolean) (a0 := (160, .inl (fun _ => 0))) hx hb (hts _ (zm_5 _)) rfl hK 3 rfl hP hD hS hA (fun cA => rfl) (by decide) (by decide) (by decide) (Nat.le_trans (Nat.le_of_ble_eq_true rfl) hc) (Nat.le_trans (Nat.le_of_ble_eq_true rfl) hsl) dX12_init_494 (fun q_29 H hP hD hS => ?_)
  rw [List.cons_append] at hP hD
  refine W.widen (k := 58) (n := 1571993) (Nat.le_of_ble_eq_true rfl) (Nat.le_of_ble_eq_true rfl) ?_
  refine y_putF (T := TX12) (N := 212) (ci := 12) hx hb hts (zi_12 _) hown hK hP hD hS 0 rfl rfl 77 (by decide) tX12_77 uX12_77 (hts _ (zm_525 _)) rfl hin rfl rfl rfl dX12_init_496 (fun H locs f_30 ek_31 ok_32 hP hD hS => ?_)
  rw [List.set_cons_zero] at hP hD
  refine lv_aload_n hx hb dX12_init_499 rfl (lv_at hl 0 rfl) ?_
  refine lv_bipush (v := 8) hx hb dX12_init_500 (by decide) ?_
  refine z_newa (atype := .int) (ty := .int) (a0 := (8, .inl (fun _ => 0))) hx hb (hts _ (zm_2 _)) rfl hK 0 rfl hP hD hS hA (fun cA => rfl) (by decide) (by decide) (by decide) (Nat.le_trans (Nat.le_of_ble_eq_true rfl) hc) (Nat.le_trans (Nat.le_of_ble_eq_true rfl) hsl) dX12_init_502 (fun q_33 H hP hD hS => ?_)
  rw [List.cons_append] at hP hD
  refine W.widen (k := 59) (n := 1572001) (Nat.le_of_ble_eq_true rfl) (Nat.le_of_ble_eq_true rfl) ?_
  refine y_putF (T := TX12) (N := 212) (ci := 12) hx hb hts (zi_12 _) hown hK hP hD hS 0 rfl rfl 78 (by decide) tX12_78 uX12_78 (hts _ (zm_526 _)) rfl hin rfl rfl rfl dX12_init_504 (fun H locs f_34 ek_35 ok_36 hP hD hS => ?_)
  rw [List.set_cons_zero] at hP hD
  refine lv_aload_n hx hb dX12_init_507 rfl (lv_at hl 0 rfl) ?_
  refine lv_ldc hx hb hown (hts _ (zm_527 _)) dX12_init_508 ?_
  refine z_newa (atype := .byte) (ty := .byte) (a0 := (48000, .inl (fun _ => 0))) hx hb (hts _ (zm_3 _)) rfl hK 1 rfl hP hD hS hA (fun cA => rfl) (by decide) (by decide) (by decide) (Nat.le_trans (Nat.le_of_ble_eq_true rfl) hc) (Nat.le_trans (Nat.le_of_ble_eq_true rfl) hsl) dX12_init_510 (fun q_37 H hP hD hS => ?_)
  rw [List.cons_append] at hP hD
  refine W.widen (k := 60) (n := 1620001) (Nat.le_of_ble_eq_true rfl) (Nat.le_of_ble_eq_true rfl) ?_
  refine y_putF (T := TX12) (N := 212) (ci := 12) hx hb hts (zi_12 _) hown hK hP hD hS 0 rfl rfl 79 (by decide) tX12_79 uX12_79 (hts _ (zm_528 _)) rfl hin rfl rfl rfl dX12_init_512 (fun H locs f_38 ek_39 ok_40 hP hD hS => ?_)
  rw [List.set_cons_zero] at hP hD
  simp only [List.append_assoc, List.cons_append, List.nil_append] at hP hD
  exact kk f_38 q_1 q_5 q_9 q_13 q_17 q_21 q_25 q_29 q_33 q_37 H locs ((ok_40 70 (by decide)).trans ((ok_36 70 (by decide)).trans ((ok_32 70 (by decide)).trans ((ok_28 70 (by decide)).trans ((ok_24 70 (by decide)).trans ((ok_20 70 (by decide)).trans ((ok_16 70 (by decide)).trans ((ok_12 70 (by decide)).trans ((ok_8 70 (by decide)).trans ek_3))))))))) ((ok_40 71 (by decide)).trans ((ok_36 71 (by decide)).trans ((ok_32 71 (by decide)).trans ((ok_28 71 (by decide)).trans ((ok_24 71 (by decide)).trans ((ok_20 71 (by decide)).trans ((ok_16 71 (by decide)).trans ((ok_12 71 (by decide)).trans ek_7)))))))) ((ok_40 72 (by decide)).trans ((ok_36 72 (by decide)).trans ((ok_32 72 (by decide)).trans ((ok_28 72 (by decide)).trans ((ok_24 72 (by decide)).trans ((ok_20 72 (by decide)).trans ((ok_16 72 (by decide)).trans ek_11))))))) ((ok_40 73 (by decide)).trans ((ok_36 73 (by decide)).trans ((ok_32 73 (by decide)).trans ((ok_28 73 (by decide)).trans ((ok_24 73 (by decide)).trans ((ok_20 73 (by decide)).trans ek_15)))))) ((ok_40 74 (by decide)).trans ((ok_36 74 (by decide)).trans ((ok_32 74 (by decide)).trans ((ok_28 74 (by decide)).trans ((ok_24 74 (by decide)).trans ek_19))))) ((ok_40 75 (by decide)).trans ((ok_36 75 (by decide)).trans ((ok_32 75 (by decide)).trans ((ok_28 75 (by decide)).trans ek_23)))) ((ok_40 76 (by decide)).trans ((ok_36 76 (by decide)).trans ((ok_32 76 (by decide)).trans ek_27))) ((ok_40 77 (by decide)).trans ((ok_36 77 (by decide)).trans ek_31)) ((ok_40 78 (by decide)).trans ek_35) ek_39 (fun j hj => ((ok_40 j (hj 79 (by decide))).trans ((ok_36 j (hj 78 (by decide))).trans ((ok_32 j (hj 77 (by decide))).trans ((ok_28 j (hj 76 (by decide))).trans ((ok_24 j (hj 75 (by decide))).trans ((ok_20 j (hj 74 (by decide))).trans ((ok_16 j (hj 73 (by decide))).trans ((ok_12 j (hj 72 (by decide))).trans ((ok_8 j (hj 71 (by decide))).trans ((ok_4 j (hj 70 (by decide))).trans rfl))))))))))) hP hD hS hl

set_option maxHeartbeats 8000000 in
set_option maxRecDepth 100000 in
/-- a piece of MumpsHouseModel() -/
theorem sg_6 {p : Program} {l : Launch} {e : Env} {R : Room} {s : State} {m : MethodId} {args : Array Value} {below : List Frame} {meth : Method} {c : Code} {Q : State → Prop} {A : Nat → Prop} {D : va_G} {x : Nat → ClassId} {h0 : Nat} (hx : p.tables.exec = Jvm.exec) (hb : c.code = cX12_init) (hts : ∀ w ∈ (.code yX12_init cX12_init 2 none :: zW : List Cond), w.before args s = true) (hown : s.vm.findClass RX12 = some m.cls) (hin : meth.name = "<init>") (hZ : zK x D s) (hA : ∀ q, s.heap.size ≤ q → A q) (hc : 70 ≤ R.cells) (hsl : 1837259 ≤ R.slots) {rest : va_W} {f : Nat → Value} {H : Heap} {locs : List Loc} {ls : Array Slot} (hP : va_P D vwCl ((h0, .inr (12, zf 212 f)) :: rest) H) (hD : va_D A ((h0, .inr (12, zf 212 f)) :: rest)) (hS : va_S A s.heap H locs) (hl : lv_has ls 2 [(0, .ref h0)])
    (kk : ∀ (f' : Nat → Value) (q_1 q_5 q_9 q_13 q_17 q_21 q_25 q_29 q_33 q_37 : Nat) (H : Heap) (locs : List Loc), f' 80 = .ref q_1 → f' 81 = .ref q_5 → f' 82 = .ref q_9 → f' 84 = .ref q_13 → f' 87 = .ref q_17 → f' 92 = .ref q_21 → f' 93 = .ref q_25 → f' 94 = .ref q_29 → f' 100 = .ref q_33 → f' 102 = .ref q_37 → (∀ j, (∀ k ∈ [80, 81, 82, 84, 87, 92, 93, 94, 100, 102], j ≠ k) → f' j = f j) → va_P D vwCl ((h0, .inr (12, zf 212 f')) :: (rest ++ [(q_1, .inl (x 0, 8, .inl (fun _ => 0))), (q_5, .inl (x 2, 7200, .inr (.inl (fun _ => 0)))), (q_9, .inl (x 1, 102656, .inl (fun _ => 0))), (q_13, .inl (x 1, 99600, .inl (fun _ => 0))), (q_17, .inl (x 1, 4000, .inl (fun _ => 0))), (q_21, .inl (x 1, 3100, .inl (fun _ => 0))), (q_25, .inl (x 1, 24, .inl (fun _ => 0))), (q_29, .inl (x 1, 260, .inl (fun _ => 0))), (q_33, .inl (x 1, 300, .inl (fun _ => 0))), (q_37, .inl (x 3, 110, .inl (fun _ => 0)))])) H → va_D A ((h0, .inr (12, zf 212 f')) :: (rest ++ [(q_1, .inl (x 0, 8, .inl (fun _ => 0))), (q_5, .inl (x 2, 7200, .inr (.inl (fun _ => 0)))), (q_9, .inl (x 1, 102656, .inl (fun _ => 0))), (q_13, .inl (x 1, 99600, .inl (fun _ => 0))), (q_17, .inl (x 1, 4000, .inl (fun _ => 0))), (q_21, .inl (x 1, 3100, .inl (fun _ => 0))), (q_25, .inl (x 1, 24, .inl (fun _ => 0))), (q_29, .inl (x 1, 260, .inl (fun _ => 0))), (q_33, .inl (x 1, 300, .inl (fun _ => 0))), (q_37, .inl (x 3, 110, .inl (fun _ => 0)))])) → va_S A s.heap H locs → lv_has ls 2 [(0, .ref h0)] → W p l e R s m args below meth c H locs 70 1837259 Q (F0 m 600 ls [])) :
    W p l e R s m args below meth c H locs 60 1620001 Q (F0 m 515 ls []) := by
  have hK := hZ.1
  refine lv_aload_n hx hb dX12_init_515 rfl (lv_at hl 0 rfl) ?_
  refine lv_bipush (v := 8) hx hb dX12_init_516 (by decide) ?_
  refine z_newa (atype := .int) (ty := .int) (a0 := (8, .inl (fun _ => 0))) hx hb (hts _ (zm_2 _)) rfl hK 0 rfl hP hD hS hA (fun cA => rfl) (by decide) (by decide) (by decide) (Nat.le_trans (Nat.le_of_ble_eq_true rfl) hc) (Nat.le_trans (Nat.le_of_ble_eq_true rfl) hsl) dX12_init_518 (fun q_1 H hP hD hS => ?_)
  rw [List.cons_append] at hP hD
  refine W.widen (k := 61) (n := 1620009) (Nat.le_of_ble_eq_true rfl) (Nat.le_of_ble_eq_true rfl) ?_
  refine y_putF (T := TX12) (N := 212) (ci := 12) hx hb hts (zi_12 _) hown hK hP hD hS 0 rfl rfl 80 (by decide) tX12_80 uX12_80 (hts _ (zm_529 _)) rfl hin rfl rfl rfl dX12_init_520 (fun H locs f_2 ek_3 ok_4 hP hD hS => ?_)
  rw [List.set_cons_zero] at hP hD
  refine lv_aload_n hx hb dX12_init_523 rfl (lv_at hl 0 rfl) ?_
  refine lv_sipush (v := 7200) hx hb dX12_init_524 (by decide) ?_
  refine z_newa (atype := .long) (ty := .long) (a0 := (7200, .inr (.inl (fun _ => 0)))) hx hb (hts _ (zm_4 _)) rfl hK 2 rfl hP hD hS hA (fun cA => rfl) (by decide) (by decide) (by decide) (Nat.le_trans (Nat.le_of_ble_eq_true rfl) hc) (Nat.le_trans (Nat.le_of_ble_eq_true rfl) hsl) dX12_init_527 (fun q_5 H hP hD hS => ?_)
  rw [List.cons_append] at hP hD
  refine W.widen (k := 62) (n := 1627209) (Nat.le_of_ble_eq_true rfl) (Nat.le_of_ble_eq_true rfl) ?_
  refine y_putF (T := TX12) (N := 212) (ci := 12) hx hb hts (zi_12 _) hown hK hP hD hS 0 rfl rfl 81 (by decide) tX12_81 uX12_81 (hts _ (zm_530 _)) rfl hin rfl rfl rfl dX12_init_529 (fun H locs f_6 ek_7 ok_8 hP hD hS => ?_)
  rw [List.set_cons_zero] at hP hD
  refine lv_aload_n hx hb dX12_init_532 rfl (lv_at hl 0 rfl) ?_
  refine lv_ldc hx hb hown (hts _ (zm_531 _)) dX12_init_533 ?_
  refine z_newa (atype := .byte) (ty := .byte) (a0 := (102656, .inl (fun _ => 0))) hx hb (hts _ (zm_3 _)) rfl hK 1 rfl hP hD hS hA (fun cA => rfl) (by decide) (by decide) (by decide) (Nat.le_trans (Nat.le_of_ble_eq_true rfl) hc) (Nat.le_trans (Nat.le_of_ble_eq_true rfl) hsl) dX12_init_535 (fun q_9 H hP hD hS => ?_)
  rw [List.cons_append] at hP hD
  refine W.widen (k := 63) (n := 1729865) (Nat.le_of_ble_eq_true rfl) (Nat.le_of_ble_eq_true rfl) ?_
  refine y_putF (T := TX12) (N := 212) (ci := 12) hx hb hts (zi_12 _) hown hK hP hD hS 0 rfl rfl 82 (by decide) tX12_82 uX12_82 (hts _ (zm_532 _)) rfl hin rfl rfl rfl dX12_init_537 (fun H locs f_10 ek_11 ok_12 hP hD hS => ?_)
  rw [List.set_cons_zero] at hP hD
  refine lv_aload_n hx hb dX12_init_540 rfl (lv_at hl 0 rfl) ?_
  refine lv_ldc hx hb hown (hts _ (zm_533 _)) dX12_init_541 ?_
  refine z_newa (atype := .byte) (ty := .byte) (a0 := (99600, .inl (fun _ => 0))) hx hb (hts _ (zm_3 _)) rfl hK 1 rfl hP hD hS hA (fun cA => rfl) (by decide) (by decide) (by decide) (Nat.le_trans (Nat.le_of_ble_eq_true rfl) hc) (Nat.le_trans (Nat.le_of_ble_eq_true rfl) hsl) dX12_init_543 (fun q_13 H hP hD hS => ?_)
  rw [List.cons_append] at hP hD
  refine W.widen (k := 64) (n := 1829465) (Nat.le_of_ble_eq_true rfl) (Nat.le_of_ble_eq_true rfl) ?_
  refine y_putF (T := TX12) (N := 212) (ci := 12) hx hb hts (zi_12 _) hown hK hP hD hS 0 rfl rfl 84 (by decide) tX12_84 uX12_84 (hts _ (zm_534 _)) rfl hin rfl rfl rfl dX12_init_545 (fun H locs f_14 ek_15 ok_16 hP hD hS => ?_)
  rw [List.set_cons_zero] at hP hD
  refine lv_aload_n hx hb dX12_init_548 rfl (lv_at hl 0 rfl) ?_
  refine lv_sipush (v := 4000) hx hb dX12_init_549 (by decide) ?_
  refine z_newa (atype := .byte) (ty := .byte) (a0 := (4000, .inl (fun _ => 0))) hx hb (hts _ (zm_3 _)) rfl hK 1 rfl hP hD hS hA (fun cA => rfl) (by decide) (by decide) (by decide) (Nat.le_trans (Nat.le_of_ble_eq_true rfl) hc) (Nat.le_trans (Nat.le_of_ble_eq_true rfl) hsl) dX12_init_552 (fun q_17 H hP hD hS => ?_)
  rw [List.cons_append] at hP hD
  refine W.widen (k := 65) (n := 1833465) (Nat.le_of_ble_eq_true rfl) (Nat.le_of_ble_eq_true rfl) ?_
  refine y_putF (T := TX12) (N := 212) (ci := 12) hx hb hts (zi_12 _) hown hK hP hD hS 0 rfl rfl 87 (by decide) tX12_87 uX12_87 (hts _ (zm_535 _)) rfl hin rfl rfl rfl dX12_init_554 (fun H locs f_18 ek_19 ok_20 hP hD hS => ?_)
  rw [List.set_cons_zero] at hP hD
  refine lv_aload_n hx hb dX12_init_557 rfl (lv_at hl 0 rfl) ?_
  refine lv_sipush (v := 3100) hx hb dX12_init_558 (by decide) ?_
  refine z_newa (atype := .byte) (ty := .byte) (a0 := (3100, .inl (fun _ => 0))) hx hb (hts _ (zm_3 _)) rfl hK 1 rfl hP hD hS hA (fun cA => rfl) (by decide) (by decide) (by decide) (Nat.le_trans (Nat.le_of_ble_eq_true rfl) hc) (Nat.le_trans (Nat.le_of_ble_eq_true rfl) hsl) dX12_init_561 (fun q_21 H hP hD hS => ?_)
  rw [List.cons_append] at hP hD
  refine W.widen (k := 66) (n := 1836565) (Nat.le_of_ble_eq_true rfl) (Nat.le_of_ble_eq_true rfl) ?_
  refine y_putF (T := TX12) (N := 212) (ci := 12) hx hb hts (zi_12 _) hown hK hP hD hS 0 rfl rfl 92 (by decide) tX12_92 uX12_92 (hts _ (zm_536 _)) rfl hin rfl rfl rfl dX12_init_563 (fun H locs f_22 ek_23 ok_24 hP hD hS => ?_)
  rw [List.set_cons_zero] at hP hD
  refine lv_aload_n hx hb dX12_init_566 rfl (lv_at hl 0 rfl) ?_
  refine lv_bipush (v := 24) hx hb dX12_init_567 (by decide) ?_
  refine z_newa (atype := .byte) (ty := .byte) (a0 := (24, .inl (fun _ => 0))) hx hb (hts _ (zm_3 _)) rfl hK 1 rfl hP hD hS hA (fun cA => rfl) (by decide) (by decide) (by decide) (Nat.le_trans (Nat.le_of_ble_eq_true rfl) hc) (Nat.le_trans (Nat.le_of_ble_eq_true rfl) hsl) dX12_init_569 (fun q_25 H hP hD hS => ?_)
  rw [List.cons_append] at hP hD
  refine W.widen (k := 67) (n := 1836589) (Nat.le_of_ble_eq_true rfl) (Nat.le_of_ble_eq_true rfl) ?_
  refine y_putF (T := TX12) (N := 212) (ci := 12) hx hb hts (zi_12 _) hown hK hP hD hS 0 rfl rfl 93 (by decide) tX12_93 uX12_93 (hts _ (zm_537 _)) rfl hin rfl rfl rfl dX12_init_571 (fun H locs f_26 ek_27 ok_28 hP hD hS => ?_)
  rw [List.set_cons_zero] at hP hD
  refine lv_aload_n hx hb dX12_init_574 rfl (lv_at hl 0 rfl) ?_
  refine lv_sipush (v := 260) hx hb dX12_init_575 (by decide) ?_
  refine z_newa (atype := .byte) (ty := .byte) (a0 := (260, .inl (fun _ => 0))) hx hb (hts _ (zm_3 _)) rfl hK 1 rfl hP hD hS hA (fun cA => rfl) (by decide) (by decide) (by decide) (Nat.le_trans (Nat.le_of_ble_eq_true rfl) hc) (Nat.le_trans (Nat.le_of_ble_eq_true rfl) hsl) dX12_init_578 (fun q_29 H hP hD hS => ?_)
  rw [List.cons_append] at hP hD
  refine W.widen (k := 68) (n := 1836849) (Nat.le_of_ble_eq_true rfl) (Nat.le_of_ble_eq_true rfl) ?_
  refine y_putF (T := TX12) (N := 212) (ci := 12) hx hb hts (zi_12 _) hown hK hP hD hS 0 rfl rfl 94 (by decide) tX12_94 uX12_94 (hts _ (zm_538 _)) rfl hin rfl rfl rfl dX12_init_580 (fun H locs f_30 ek_31 ok_32 hP hD hS => ?_)
  rw [List.set_cons_zero] at hP hD
  refine lv_aload_n hx hb dX12_init_583 rfl (lv_at hl 0 rfl) ?_
  refine lv_sipush (v := 300) hx hb dX12_init_584 (by decide) ?_
  refine z_newa (atype := .byte) (ty := .byte) (a0 := (300, .inl (fun _ => 0))) hx hb (hts _ (zm_3 _)) rfl hK 1 rfl hP hD hS hA (fun cA => rfl) (by decide) (by decide) (by decide) (Nat.le_trans (Nat.le_of_ble_eq_true rfl) hc) (Nat.le_trans (Nat.le_of_ble_eq_true rfl) hsl) dX12_init_587 (fun q_33 H hP hD hS => ?_)
  rw [List.cons_append] at hP hD
  refine W.widen (k := 69) (n := 1837149) (Nat.le_of_ble_eq_true rfl) (Nat.le_of_ble_eq_true rfl) ?_
  refine y_putF (T := TX12) (N := 212) (ci := 12) hx hb hts (zi_12 _) hown hK hP hD hS 0 rfl rfl 100 (by decide) tX12_100 uX12_100 (hts _ (zm_539 _)) rfl hin rfl rfl rfl dX12_init_589 (fun H locs f_34 ek_35 ok_36 hP hD hS => ?_)
  rw [List.set_cons_zero] at hP hD
  refine lv_aload_n hx hb dX12_init_592 rfl (lv_at hl 0 rfl) ?_
  refine lv_bipush (v := 110) hx hb dX12_init_593 (by decide) ?_
  refine z_newa (atype := .boolean) (ty := .boolean) (a0 := (110, .inl (fun _ => 0))) hx hb (hts _ (zm_5 _)) rfl hK 3 rfl hP hD hS hA (fun cA => rfl) (by decide) (by decide) (by decide) (Nat.le_trans (Nat.le_of_ble_eq_true rfl) hc) (Nat.le_trans (Nat.le_of_ble_eq_true rfl) hsl) dX12_init_595 (fun q_37 H hP hD hS => ?_)
  rw [List.cons_append] at hP hD
  refine W.widen (k := 70) (n := 1837259) (Nat.le_of_ble_eq_true rfl) (Nat.le_of_ble_eq_true rfl) ?_
  refine y_putF (T := TX12) (N := 212) (ci := 12) hx hb hts (zi_12 _) hown hK hP hD hS 0 rfl rfl 102 (by decide) tX12_102 uX12_102 (hts _ (zm_540 _)) rfl hin rfl rfl rfl dX12_init_597 (fun H locs f_38 ek_39 ok_40 hP hD hS => ?_)
  rw [List.set_cons_zero] at hP hD
  simp only [List.append_assoc, List.cons_append, List.nil_append] at hP hD
  exact kk f_38 q_1 q_5 q_9 q_13 q_17 q_21 q_25 q_29 q_33 q_37 H locs ((ok_40 80 (by decide)).trans ((ok_36 80 (by decide)).trans ((ok_32 80 (by decide)).trans ((ok_28 80 (by decide)).trans ((ok_24 80 (by decide)).trans ((ok_20 80 (by decide)).trans ((ok_16 80 (by decide)).trans ((ok_12 80 (by decide)).trans ((ok_8 80 (by decide)).trans ek_3))))))))) ((ok_40 81 (by decide)).trans ((ok_36 81 (by decide)).trans ((ok_32 81 (by decide)).trans ((ok_28 81 (by decide)).trans ((ok_24 81 (by decide)).trans ((ok_20 81 (by decide)).trans ((ok_16 81 (by decide)).trans ((ok_12 81 (by decide)).trans ek_7)))))))) ((ok_40 82 (by decide)).trans ((ok_36 82 (by decide)).trans ((ok_32 82 (by decide)).trans ((ok_28 82 (by decide)).trans ((ok_24 82 (by decide)).trans ((ok_20 82 (by decide)).trans ((ok_16 82 (by decide)).trans ek_11))))))) ((ok_40 84 (by decide)).trans ((ok_36 84 (by decide)).trans ((ok_32 84 (by decide)).trans ((ok_28 84 (by decide)).trans ((ok_24 84 (by decide)).trans ((ok_20 84 (by decide)).trans ek_15)))))) ((ok_40 87 (by decide)).trans ((ok_36 87 (by decide)).trans ((ok_32 87 (by decide)).trans ((ok_28 87 (by decide)).trans ((ok_24 87 (by decide)).trans ek_19))))) ((ok_40 92 (by decide)).trans ((ok_36 92 (by decide)).trans ((ok_32 92 (by decide)).trans ((ok_28 92 (by decide)).trans ek_23)))) ((ok_40 93 (by decide)).trans ((ok_36 93 (by decide)).trans ((ok_32 93 (by decide)).trans ek_27))) ((ok_40 94 (by decide)).trans ((ok_36 94 (by decide)).trans ek_31)) ((ok_40 100 (by decide)).trans ek_35) ek_39 (fun j hj => ((ok_40 j (hj 102 (by decide))).trans ((ok_36 j (hj 100 (by decide))).trans ((ok_32 j (hj 94 (by decide))).trans ((ok_28 j (hj 93 (by decide))).trans ((ok_24 j (hj 92 (by decide))).trans ((ok_20 j (hj 87 (by decide))).trans ((ok_16 j (hj 84 (by decide))).trans ((ok_12 j (hj 82 (by decide))).trans ((ok_8 j (hj 81 (by decide))).trans ((ok_4 j (hj 80 (by decide))).trans rfl))))))))))) hP hD hS hl

set_option maxHeartbeats 8000000 in
set_option maxRecDepth 100000 in
/-- a piece of MumpsHouseModel() -/
theorem sg_7 {p : Program} {l : Launch} {e : Env} {R : Room} {s : State} {m : MethodId} {args : Array Value} {below : List Frame} {meth : Method} {c : Code} {Q : State → Prop} {A : Nat → Prop} {D : va_G} {x : Nat → ClassId} {h0 : Nat} (hx : p.tables.exec = Jvm.exec) (hb : c.code = cX12_init) (hts : ∀ w ∈ (.code yX12_init cX12_init 2 none :: zW : List Cond), w.before args s = true) (hown : s.vm.findClass RX12 = some m.cls) (hin : meth.name = "<init>") (hZ : zK x D s) (hA : ∀ q, s.heap.size ≤ q → A q) (hc : 80 ≤ R.cells) (hsl : 1887450 ≤ R.slots) {rest : va_W} {f : Nat → Value} {H : Heap} {locs : List Loc} {ls : Array Slot} (hP : va_P D vwCl ((h0, .inr (12, zf 212 f)) :: rest) H) (hD : va_D A ((h0, .inr (12, zf 212 f)) :: rest)) (hS : va_S A s.heap H locs) (hl : lv_has ls 2 [(0, .ref h0)])
    (kk : ∀ (f' : Nat → Value) (q_1 q_5 q_9 q_13 q_17 q_21 q_25 q_29 q_33 q_37 : Nat) (H : Heap) (locs : List Loc), f' 103 = .ref q_1 → f' 105 = .ref q_5 → f' 106 = .ref q_9 → f' 107 = .ref q_13 → f' 108 = .ref q_17 → f' 109 = .ref q_21 → f' 110 = .ref q_25 → f' 111 = .ref q_29 → f' 112 = .ref q_33 → f' 113 = .ref q_37 → (∀ j, (∀ k ∈ [103, 105, 106, 107, 108, 109, 110, 111, 112, 113], j ≠ k) → f' j = f j) → va_P D vwCl ((h0, .inr (12, zf 212 f')) :: (rest ++ [(q_1, .inl (x 2, 8, .inr (.inl (fun _ => 0)))), (q_5, .inl (x 0, 25, .inl (fun _ => 0))), (q_9, .inl (x 0, 8, .inl (fun _ => 0))), (q_13, .inl (x 3, 25, .inl (fun _ => 0))), (q_17, .inl (x 0, 25, .inl (fun _ => 0))), (q_21, .inl (x 0, 25, .inl (fun _ => 0))), (q_25, .inl (x 0, 25, .inl (fun _ => 0))), (q_29, .inl (x 0, 25, .inl (fun _ => 0))), (q_33, .inl (x 0, 25, .inl (fun _ => 0))), (q_37, .inl (x 1, 50000, .inl (fun _ => 0)))])) H → va_D A ((h0, .inr (12, zf 212 f')) :: (rest ++ [(q_1, .inl (x 2, 8, .inr (.inl (fun _ => 0)))), (q_5, .inl (x 0, 25, .inl (fun _ => 0))), (q_9, .inl (x 0, 8, .inl (fun _ => 0))), (q_13, .inl (x 3, 25, .inl (fun _ => 0))), (q_17, .inl (x 0, 25, .inl (fun _ => 0))), (q_21, .inl (x 0, 25, .inl (fun _ => 0))), (q_25, .inl (x 0, 25, .inl (fun _ => 0))), (q_29, .inl (x 0, 25, .inl (fun _ => 0))), (q_33, .inl (x 0, 25, .inl (fun _ => 0))), (q_37, .inl (x 1, 50000, .inl (fun _ => 0)))])) → va_S A s.heap H locs → lv_has ls 2 [(0, .ref h0)] → W p l e R s m args below meth c H locs 80 1887450 Q (F0 m 681 ls [])) :
    W p l e R s m args below meth c H locs 70 1837259 Q (F0 m 600 ls []) := by
  have hK := hZ.1
  refine lv_aload_n hx hb dX12_init_600 rfl (lv_at hl 0 rfl) ?_
  refine lv_bipush (v := 8) hx hb dX12_init_601 (by decide) ?_
  refine z_newa (atype := .long) (ty := .long) (a0 := (8, .inr (.inl (fun _ => 0)))) hx hb (hts _ (zm_4 _)) rfl hK 2 rfl hP hD hS hA (fun cA => rfl) (by decide) (by decide) (by decide) (Nat.le_trans (Nat.le_of_ble_eq_true rfl) hc) (Nat.le_trans (Nat.le_of_ble_eq_true rfl) hsl) dX12_init_603 (fun q_1 H hP hD hS => ?_)
  rw [List.cons_append] at hP hD
  refine W.widen (k := 71) (n := 1837267) (Nat.le_of_ble_eq_true rfl) (Nat.le_of_ble_eq_true rfl) ?_
  refine y_putF (T := TX12) (N := 212) (ci := 12) hx hb hts (zi_12 _) hown hK hP hD hS 0 rfl rfl 103 (by decide) tX12_103 uX12_103 (hts _ (zm_541 _)) rfl hin rfl rfl rfl dX12_init_605 (fun H locs f_2 ek_3 ok_4 hP hD hS => ?_)
  rw [List.set_cons_zero] at hP hD
  refine lv_aload_n hx hb dX12_init_608 rfl (lv_at hl 0 rfl) ?_
  refine lv_bipush (v := 25) hx hb dX12_init_609 (by decide) ?_
  refine z_newa (atype := .int) (ty := .int) (a0 := (25, .inl (fun _ => 0))) hx hb (hts _ (zm_2 _)) rfl hK 0 rfl hP hD hS hA (fun cA => rfl) (by decide) (by decide) (by decide) (Nat.le_trans (Nat.le_of_ble_eq_true rfl) hc) (Nat.le_trans (Nat.le_of_ble_eq_true rfl) hsl) dX12_init_611 (fun q_5 H hP hD hS => ?_)
  rw [List.cons_append] at hP hD
  refine W.widen (k := 72) (n := 1837292) (Nat.le_of_ble_eq_true rfl) (Nat.le_of_ble_eq_true rfl) ?_
  refine y_putF (T := TX12) (N := 212) (ci := 12) hx hb hts (zi_12 _) hown hK hP hD hS 0 rfl rfl 105 (by decide) tX12_105 uX12_105 (hts _ (zm_542 _)) rfl hin rfl rfl rfl dX12_init_613 (fun H locs f_6 ek_7 ok_8 hP hD hS => ?_)
  rw [List.set_cons_zero] at hP hD
  refine lv_aload_n hx hb dX12_init_616 rfl (lv_at hl 0 rfl) ?_
  refine lv_bipush (v := 8) hx hb dX12_init_617 (by decide) ?_
  refine z_newa (atype := .int) (ty := .int) (a0 := (8, .inl (fun _ => 0))) hx hb (hts _ (zm_2 _)) rfl hK 0 rfl hP hD hS hA (fun cA => rfl) (by decide) (by decide) (by decide) (Nat.le_trans (Nat.le_of_ble_eq_true rfl) hc) (Nat.le_trans (Nat.le_of_ble_eq_true rfl) hsl) dX12_init_619 (fun q_9 H hP hD hS => ?_)
  rw [List.cons_append] at hP hD
  refine W.widen (k := 73) (n := 1837300) (Nat.le_of_ble_eq_true rfl) (Nat.le_of_ble_eq_true rfl) ?_
  refine y_putF (T := TX12) (N := 212) (ci := 12) hx hb hts (zi_12 _) hown hK hP hD hS 0 rfl rfl 106 (by decide) tX12_106 uX12_106 (hts _ (zm_543 _)) rfl hin rfl rfl rfl dX12_init_621 (fun H locs f_10 ek_11 ok_12 hP hD hS => ?_)
  rw [List.set_cons_zero] at hP hD
  refine lv_aload_n hx hb dX12_init_624 rfl (lv_at hl 0 rfl) ?_
  refine lv_bipush (v := 25) hx hb dX12_init_625 (by decide) ?_
  refine z_newa (atype := .boolean) (ty := .boolean) (a0 := (25, .inl (fun _ => 0))) hx hb (hts _ (zm_5 _)) rfl hK 3 rfl hP hD hS hA (fun cA => rfl) (by decide) (by decide) (by decide) (Nat.le_trans (Nat.le_of_ble_eq_true rfl) hc) (Nat.le_trans (Nat.le_of_ble_eq_true rfl) hsl) dX12_init_627 (fun q_13 H hP hD hS => ?_)
  rw [List.cons_append] at hP hD
  refine W.widen (k := 74) (n := 1837325) (Nat.le_of_ble_eq_true rfl) (Nat.le_of_ble_eq_true rfl) ?_
  refine y_putF (T := TX12) (N := 212) (ci := 12) hx hb hts (zi_12 _) hown hK hP hD hS 0 rfl rfl 107 (by decide) tX12_107 uX12_107 (hts _ (zm_544 _)) rfl hin rfl rfl rfl dX12_init_629 (fun H locs f_14 ek_15 ok_16 hP hD hS => ?_)
  rw [List.set_cons_zero] at hP hD
  refine lv_aload_n hx hb dX12_init_632 rfl (lv_at hl 0 rfl) ?_
  refine lv_bipush (v := 25) hx hb dX12_init_633 (by decide) ?_
  refine z_newa (atype := .int) (ty := .int) (a0 := (25, .inl (fun _ => 0))) hx hb (hts _ (zm_2 _)) rfl hK 0 rfl hP hD hS hA (fun cA => rfl) (by decide) (by decide) (by decide) (Nat.le_trans (Nat.le_of_ble_eq_true rfl) hc) (Nat.le_trans (Nat.le_of_ble_eq_true rfl) hsl) dX12_init_635 (fun q_17 H hP hD hS => ?_)
  rw [List.cons_append] at hP hD
  refine W.widen (k := 75) (n := 1837350) (Nat.le_of_ble_eq_true rfl) (Nat.le_of_ble_eq_true rfl) ?_
  refine y_putF (T := TX12) (N := 212) (ci := 12) hx hb hts (zi_12 _) hown hK hP hD hS 0 rfl rfl 108 (by decide) tX12_108 uX12_108 (hts _ (zm_545 _)) rfl hin rfl rfl rfl dX12_init_637 (fun H locs f_18 ek_19 ok_20 hP hD hS => ?_)
  rw [List.set_cons_zero] at hP hD
  refine lv_aload_n hx hb dX12_init_640 rfl (lv_at hl 0 rfl) ?_
  refine lv_bipush (v := 25) hx hb dX12_init_641 (by decide) ?_
  refine z_newa (atype := .int) (ty := .int) (a0 := (25, .inl (fun _ => 0))) hx hb (hts _ (zm_2 _)) rfl hK 0 rfl hP hD hS hA (fun cA => rfl) (by decide) (by decide) (by decide) (Nat.le_trans (Nat.le_of_ble_eq_true rfl) hc) (Nat.le_trans (Nat.le_of_ble_eq_true rfl) hsl) dX12_init_643 (fun q_21 H hP hD hS => ?_)
  rw [List.cons_append] at hP hD
  refine W.widen (k := 76) (n := 1837375) (Nat.le_of_ble_eq_true rfl) (Nat.le_of_ble_eq_true rfl) ?_
  refine y_putF (T := TX12) (N := 212) (ci := 12) hx hb hts (zi_12 _) hown hK hP hD hS 0 rfl rfl 109 (by decide) tX12_109 uX12_109 (hts _ (zm_546 _)) rfl hin rfl rfl rfl dX12_init_645 (fun H locs f_22 ek_23 ok_24 hP hD hS => ?_)
  rw [List.set_cons_zero] at hP hD
  refine lv_aload_n hx hb dX12_init_648 rfl (lv_at hl 0 rfl) ?_
  refine lv_bipush (v := 25) hx hb dX12_init_649 (by decide) ?_
  refine z_newa (atype := .int) (ty := .int) (a0 := (25, .inl (fun _ => 0))) hx hb (hts _ (zm_2 _)) rfl hK 0 rfl hP hD hS hA (fun cA => rfl) (by decide) (by decide) (by decide) (Nat.le_trans (Nat.le_of_ble_eq_true rfl) hc) (Nat.le_trans (Nat.le_of_ble_eq_true rfl) hsl) dX12_init_651 (fun q_25 H hP hD hS => ?_)
  rw [List.cons_append] at hP hD
  refine W.widen (k := 77) (n := 1837400) (Nat.le_of_ble_eq_true rfl) (Nat.le_of_ble_eq_true rfl) ?_
  refine y_putF (T := TX12) (N := 212) (ci := 12) hx hb hts (zi_12 _) hown hK hP hD hS 0 rfl rfl 110 (by decide) tX12_110 uX12_110 (hts _ (zm_547 _)) rfl hin rfl rfl rfl dX12_init_653 (fun H locs f_26 ek_27 ok_28 hP hD hS => ?_)
  rw [List.set_cons_zero] at hP hD
  refine lv_aload_n hx hb dX12_init_656 rfl (lv_at hl 0 rfl) ?_
  refine lv_bipush (v := 25) hx hb dX12_init_657 (by decide) ?_
  refine z_newa (atype := .int) (ty := .int) (a0 := (25, .inl (fun _ => 0))) hx hb (hts _ (zm_2 _)) rfl hK 0 rfl hP hD hS hA (fun cA => rfl) (by decide) (by decide) (by decide) (Nat.le_trans (Nat.le_of_ble_eq_true rfl) hc) (Nat.le_trans (Nat.le_of_ble_eq_true rfl) hsl) dX12_init_659 (fun q_29 H hP hD hS => ?_)
  rw [List.cons_append] at hP hD
  refine W.widen (k := 78) (n := 1837425) (Nat.le_of_ble_eq_true rfl) (Nat.le_of_ble_eq_true rfl) ?_
  refine y_putF (T := TX12) (N := 212) (ci := 12) hx hb hts (zi_12 _) hown hK hP hD hS 0 rfl rfl 111 (by decide) tX12_111 uX12_111 (hts _ (zm_548 _)) rfl hin rfl rfl rfl dX12_init_661 (fun H locs f_30 ek_31 ok_32 hP hD hS => ?_)
  rw [List.set_cons_zero] at hP hD
  refine lv_aload_n hx hb dX12_init_664 rfl (lv_at hl 0 rfl) ?_
  refine lv_bipush (v := 25) hx hb dX12_init_665 (by decide) ?_
  refine z_newa (atype := .int) (ty := .int) (a0 := (25, .inl (fun _ => 0))) hx hb (hts _ (zm_2 _)) rfl hK 0 rfl hP hD hS hA (fun cA => rfl) (by decide) (by decide) (by decide) (Nat.le_trans (Nat.le_of_ble_eq_true rfl) hc) (Nat.le_trans (Nat.le_of_ble_eq_true rfl) hsl) dX12_init_667 (fun q_33 H hP hD hS => ?_)
  rw [List.cons_append] at hP hD
  refine W.widen (k := 79) (n := 1837450) (Nat.le_of_ble_eq_true rfl) (Nat.le_of_ble_eq_true rfl) ?_
  refine y_putF (T := TX12) (N := 212) (ci := 12) hx hb hts (zi_12 _) hown hK hP hD hS 0 rfl rfl 112 (by decide) tX12_112 uX12_112 (hts _ (zm_549 _)) rfl hin rfl rfl rfl dX12_init_669 (fun H locs f_34 ek_35 ok_36 hP hD hS => ?_)
  rw [List.set_cons_zero] at hP hD
  refine lv_aload_n hx hb dX12_init_672 rfl (lv_at hl 0 rfl) ?_
  refine lv_ldcw hx hb hown (hts _ (zm_550 _)) dX12_init_673 ?_
  refine z_newa (atype := .byte) (ty := .byte) (a0 := (50000, .inl (fun _ => 0))) hx hb (hts _ (zm_3 _)) rfl hK 1 rfl hP hD hS hA (fun cA => rfl) (by decide) (by decide) (by decide) (Nat.le_trans (Nat.le_of_ble_eq_true rfl) hc) (Nat.le_trans (Nat.le_of_ble_eq_true rfl) hsl) dX12_init_676 (fun q_37 H hP hD hS => ?_)
  rw [List.cons_append] at hP hD
  refine W.widen (k := 80) (n := 1887450) (Nat.le_of_ble_eq_true rfl) (Nat.le_of_ble_eq_true rfl) ?_
  refine y_putF (T := TX12) (N := 212) (ci := 12) hx hb hts (zi_12 _) hown hK hP hD hS 0 rfl rfl 113 (by decide) tX12_113 uX12_113 (hts _ (zm_551 _)) rfl hin rfl rfl rfl dX12_init_678 (fun H locs f_38 ek_39 ok_40 hP hD hS => ?_)
  rw [List.set_cons_zero] at hP hD
  simp only [List.append_assoc, List.cons_append, List.nil_append] at hP hD
  exact kk f_38 q_1 q_5 q_9 q_13 q_17 q_21 q_25 q_29 q_33 q_37 H locs ((ok_40 103 (by decide)).trans ((ok_36 103 (by decide)).trans ((ok_32 103 (by decide)).trans ((ok_28 103 (by decide)).trans ((ok_24 103 (by decide)).trans ((ok_20 103 (by decide)).trans ((ok_16 103 (by decide)).trans ((ok_12 103 (by decide)).trans ((ok_8 103 (by decide)).trans ek_3))))))))) ((ok_40 105 (by decide)).trans ((ok_36 105 (by decide)).trans ((ok_32 105 (by decide)).trans ((ok_28 105 (by decide)).trans ((ok_24 105 (by decide)).trans ((ok_20 105 (by decide)).trans ((ok_16 105 (by decide)).trans ((ok_12 105 (by decide)).trans ek_7)))))))) ((ok_40 106 (by decide)).trans ((ok_36 106 (by decide)).trans ((ok_32 106 (by decide)).trans ((ok_28 106 (by decide)).trans ((ok_24 106 (by decide)).trans ((ok_20 106 (by decide)).trans ((ok_16 106 (by decide)).trans ek_11))))))) ((ok_40 107 (by decide)).trans ((ok_36 107 (by decide)).trans ((ok_32 107 (by decide)).trans ((ok_28 107 (by decide)).trans ((ok_24 107 (by decide)).trans ((ok_20 107 (by decide)).trans ek_15)))))) ((ok_40 108 (by decide)).trans ((ok_36 108 (by decide)).trans ((ok_32 108 (by decide)).trans ((ok_28 108 (by decide)).trans ((ok_24 108 (by decide)).trans ek_19))))) ((ok_40 109 (by decide)).trans ((ok_36 109 (by decide)).trans ((ok_32 109 (by decide)).trans ((ok_28 109 (by decide)).trans ek_23)))) ((ok_40 110 (by decide)).trans ((ok_36 110 (by decide)).trans ((ok_32 110 (by decide)).trans ek_27))) ((ok_40 111 (by decide)).trans ((ok_36 111 (by decide)).trans ek_31)) ((ok_40 112 (by decide)).trans ek_35) ek_39 (fun j hj => ((ok_40 j (hj 113 (by decide))).trans ((ok_36 j (hj 112 (by decide))).trans ((ok_32 j (hj 111 (by decide))).trans ((ok_28 j (hj 110 (by decide))).trans ((ok_24 j (hj 109 (by decide))).trans ((ok_20 j (hj 108 (by decide))).trans ((ok_16 j (hj 107 (by decide))).trans ((ok_12 j (hj 106 (by decide))).trans ((ok_8 j (hj 105 (by decide))).trans ((ok_4 j (hj 103 (by decide))).trans rfl))))))))))) hP hD hS hl
