theorem dL_law_415 : decode cL_law 415 = .ok (.aload_n 1, 1) := by decide +kernel
theorem dL_law_416 : decode cL_law 416 = .ok (.aload_n 0, 1) := by decide +kernel
theorem dL_law_417 : decode cL_law 417 = .ok (.iload_n 3, 1) := by decide +kernel
theorem dL_law_418 : decode cL_law 418 = .ok (.iconst 1, 1) := by decide +kernel
theorem dL_law_419 : decode cL_law 419 = .ok (.iadd, 1) := by decide +kernel
theorem dL_law_420 : decode cL_law 420 = .ok (.iaload, 1) := by decide +kernel
theorem dL_law_421 : decode cL_law 421 = .ok (.aload_n 0, 1) := by decide +kernel
theorem dL_law_422 : decode cL_law 422 = .ok (.iload_n 3, 1) := by decide +kernel
theorem dL_law_423 : decode cL_law 423 = .ok (.iconst 2, 1) := by decide +kernel
theorem dL_law_424 : decode cL_law 424 = .ok (.iadd, 1) := by decide +kernel
theorem dL_law_425 : decode cL_law 425 = .ok (.iaload, 1) := by decide +kernel
theorem dL_law_426 : decode cL_law 426 = .ok (.invokevirtual 55, 3) := by decide +kernel
theorem dL_law_429 : decode cL_law 429 = .ok (.aload_n 2, 1) := by decide +kernel
theorem dL_law_430 : decode cL_law 430 = .ok (.aload_n 0, 1) := by decide +kernel
theorem dL_law_431 : decode cL_law 431 = .ok (.iload_n 3, 1) := by decide +kernel
theorem dL_law_432 : decode cL_law 432 = .ok (.iconst 1, 1) := by decide +kernel
theorem dL_law_433 : decode cL_law 433 = .ok (.iadd, 1) := by decide +kernel
theorem dL_law_434 : decode cL_law 434 = .ok (.iaload, 1) := by decide +kernel
theorem dL_law_435 : decode cL_law 435 = .ok (.aload_n 0, 1) := by decide +kernel
theorem dL_law_436 : decode cL_law 436 = .ok (.iload_n 3, 1) := by decide +kernel
theorem dL_law_437 : decode cL_law 437 = .ok (.iconst 2, 1) := by decide +kernel
theorem dL_law_438 : decode cL_law 438 = .ok (.iadd, 1) := by decide +kernel
theorem dL_law_439 : decode cL_law 439 = .ok (.iaload, 1) := by decide +kernel
theorem dL_law_440 : decode cL_law 440 = .ok (.invokevirtual 59, 3) := by decide +kernel
theorem dL_law_443 : decode cL_law 443 = .ok (.if_icmp .eq 400, 3) := by decide +kernel
theorem dL_law_448 : decode cL_law 448 = .ok (.aload_n 1, 1) := by decide +kernel
theorem dL_law_449 : decode cL_law 449 = .ok (.aload_n 0, 1) := by decide +kernel
theorem dL_law_450 : decode cL_law 450 = .ok (.iload_n 3, 1) := by decide +kernel
theorem dL_law_451 : decode cL_law 451 = .ok (.iconst 1, 1) := by decide +kernel
theorem dL_law_452 : decode cL_law 452 = .ok (.iadd, 1) := by decide +kernel
theorem dL_law_453 : decode cL_law 453 = .ok (.iaload, 1) := by decide +kernel
theorem dL_law_454 : decode cL_law 454 = .ok (.aload_n 0, 1) := by decide +kernel
theorem dL_law_455 : decode cL_law 455 = .ok (.iload_n 3, 1) := by decide +kernel
theorem dL_law_456 : decode cL_law 456 = .ok (.iconst 2, 1) := by decide +kernel
theorem dL_law_457 : decode cL_law 457 = .ok (.iadd, 1) := by decide +kernel
theorem dL_law_458 : decode cL_law 458 = .ok (.iaload, 1) := by decide +kernel
theorem dL_law_459 : decode cL_law 459 = .ok (.invokevirtual 60, 3) := by decide +kernel
theorem dL_law_462 : decode cL_law 462 = .ok (.aload_n 2, 1) := by decide +kernel
theorem dL_law_463 : decode cL_law 463 = .ok (.aload_n 0, 1) := by decide +kernel
theorem dL_law_464 : decode cL_law 464 = .ok (.iload_n 3, 1) := by decide +kernel
theorem dL_law_465 : decode cL_law 465 = .ok (.iconst 1, 1) := by decide +kernel
theorem dL_law_466 : decode cL_law 466 = .ok (.iadd, 1) := by decide +kernel
theorem dL_law_467 : decode cL_law 467 = .ok (.iaload, 1) := by decide +kernel
theorem dL_law_468 : decode cL_law 468 = .ok (.aload_n 0, 1) := by decide +kernel
theorem dL_law_469 : decode cL_law 469 = .ok (.iload_n 3, 1) := by decide +kernel
theorem dL_law_470 : decode cL_law 470 = .ok (.iconst 2, 1) := by decide +kernel
theorem dL_law_471 : decode cL_law 471 = .ok (.iadd, 1) := by decide +kernel
theorem dL_law_472 : decode cL_law 472 = .ok (.iaload, 1) := by decide +kernel
theorem dL_law_473 : decode cL_law 473 = .ok (.invokevirtual 63, 3) := by decide +kernel
theorem dL_law_476 : decode cL_law 476 = .ok (.if_icmp .eq 367, 3) := by decide +kernel
theorem dL_law_481 : decode cL_law 481 = .ok (.aload_n 1, 1) := by decide +kernel
theorem dL_law_482 : decode cL_law 482 = .ok (.aload_n 0, 1) := by decide +kernel
theorem dL_law_483 : decode cL_law 483 = .ok (.iload_n 3, 1) := by decide +kernel
theorem dL_law_484 : decode cL_law 484 = .ok (.iconst 1, 1) := by decide +kernel
theorem dL_law_485 : decode cL_law 485 = .ok (.iadd, 1) := by decide +kernel
theorem dL_law_486 : decode cL_law 486 = .ok (.iaload, 1) := by decide +kernel
theorem dL_law_487 : decode cL_law 487 = .ok (.invokevirtual 64, 3) := by decide +kernel
theorem dL_law_490 : decode cL_law 490 = .ok (.aload_n 2, 1) := by decide +kernel
theorem dL_law_491 : decode cL_law 491 = .ok (.aload_n 0, 1) := by decide +kernel
theorem dL_law_492 : decode cL_law 492 = .ok (.iload_n 3, 1) := by decide +kernel
theorem dL_law_493 : decode cL_law 493 = .ok (.iconst 1, 1) := by decide +kernel
theorem dL_law_494 : decode cL_law 494 = .ok (.iadd, 1) := by decide +kernel
theorem dL_law_495 : decode cL_law 495 = .ok (.iaload, 1) := by decide +kernel
theorem dL_law_496 : decode cL_law 496 = .ok (.invokevirtual 67, 3) := by decide +kernel
theorem dL_law_499 : decode cL_law 499 = .ok (.if_icmp .eq 344, 3) := by decide +kernel
theorem dL_law_504 : decode cL_law 504 = .ok (.aload_n 1, 1) := by decide +kernel
theorem dL_law_505 : decode cL_law 505 = .ok (.aload_n 0, 1) := by decide +kernel
theorem dL_law_506 : decode cL_law 506 = .ok (.iload_n 3, 1) := by decide +kernel
theorem dL_law_507 : decode cL_law 507 = .ok (.iconst 1, 1) := by decide +kernel
theorem dL_law_508 : decode cL_law 508 = .ok (.iadd, 1) := by decide +kernel
theorem dL_law_509 : decode cL_law 509 = .ok (.iaload, 1) := by decide +kernel
theorem dL_law_510 : decode cL_law 510 = .ok (.invokevirtual 68, 3) := by decide +kernel
theorem dL_law_513 : decode cL_law 513 = .ok (.aload_n 2, 1) := by decide +kernel
theorem dL_law_514 : decode cL_law 514 = .ok (.aload_n 0, 1) := by decide +kernel
theorem dL_law_515 : decode cL_law 515 = .ok (.iload_n 3, 1) := by decide +kernel
theorem dL_law_516 : decode cL_law 516 = .ok (.iconst 1, 1) := by decide +kernel
theorem dL_law_517 : decode cL_law 517 = .ok (.iadd, 1) := by decide +kernel
theorem dL_law_518 : decode cL_law 518 = .ok (.iaload, 1) := by decide +kernel
theorem dL_law_519 : decode cL_law 519 = .ok (.invokevirtual 71, 3) := by decide +kernel
theorem dL_law_522 : decode cL_law 522 = .ok (.if_icmp .eq 321, 3) := by decide +kernel
theorem dL_law_527 : decode cL_law 527 = .ok (.aload_n 1, 1) := by decide +kernel
theorem dL_law_528 : decode cL_law 528 = .ok (.aload_n 0, 1) := by decide +kernel
theorem dL_law_529 : decode cL_law 529 = .ok (.iload_n 3, 1) := by decide +kernel
theorem dL_law_530 : decode cL_law 530 = .ok (.iconst 1, 1) := by decide +kernel
theorem dL_law_531 : decode cL_law 531 = .ok (.iadd, 1) := by decide +kernel
theorem dL_law_532 : decode cL_law 532 = .ok (.iaload, 1) := by decide +kernel
theorem dL_law_533 : decode cL_law 533 = .ok (.aload_n 0, 1) := by decide +kernel
theorem dL_law_534 : decode cL_law 534 = .ok (.iload_n 3, 1) := by decide +kernel
theorem dL_law_535 : decode cL_law 535 = .ok (.iconst 2, 1) := by decide +kernel
theorem dL_law_536 : decode cL_law 536 = .ok (.iadd, 1) := by decide +kernel
theorem dL_law_537 : decode cL_law 537 = .ok (.iaload, 1) := by decide +kernel
theorem dL_law_538 : decode cL_law 538 = .ok (.aload_n 0, 1) := by decide +kernel
theorem dL_law_539 : decode cL_law 539 = .ok (.iload_n 3, 1) := by decide +kernel
theorem dL_law_540 : decode cL_law 540 = .ok (.iconst 3, 1) := by decide +kernel
theorem dL_law_541 : decode cL_law 541 = .ok (.iadd, 1) := by decide +kernel
theorem dL_law_542 : decode cL_law 542 = .ok (.iaload, 1) := by decide +kernel
theorem dL_law_543 : decode cL_law 543 = .ok (.invokevirtual 72, 3) := by decide +kernel
theorem dL_law_546 : decode cL_law 546 = .ok (.aload_n 2, 1) := by decide +kernel
theorem dL_law_547 : decode cL_law 547 = .ok (.aload_n 0, 1) := by decide +kernel
theorem dL_law_548 : decode cL_law 548 = .ok (.iload_n 3, 1) := by decide +kernel
theorem dL_law_549 : decode cL_law 549 = .ok (.iconst 1, 1) := by decide +kernel
theorem dL_law_550 : decode cL_law 550 = .ok (.iadd, 1) := by decide +kernel
theorem dL_law_551 : decode cL_law 551 = .ok (.iaload, 1) := by decide +kernel
theorem dL_law_552 : decode cL_law 552 = .ok (.aload_n 0, 1) := by decide +kernel
theorem dL_law_553 : decode cL_law 553 = .ok (.iload_n 3, 1) := by decide +kernel
theorem dL_law_554 : decode cL_law 554 = .ok (.iconst 2, 1) := by decide +kernel
theorem dL_law_555 : decode cL_law 555 = .ok (.iadd, 1) := by decide +kernel
theorem dL_law_556 : decode cL_law 556 = .ok (.iaload, 1) := by decide +kernel
theorem dL_law_557 : decode cL_law 557 = .ok (.aload_n 0, 1) := by decide +kernel
theorem dL_law_558 : decode cL_law 558 = .ok (.iload_n 3, 1) := by decide +kernel
theorem dL_law_559 : decode cL_law 559 = .ok (.iconst 3, 1) := by decide +kernel
theorem dL_law_560 : decode cL_law 560 = .ok (.iadd, 1) := by decide +kernel
theorem dL_law_561 : decode cL_law 561 = .ok (.iaload, 1) := by decide +kernel
theorem dL_law_562 : decode cL_law 562 = .ok (.invokevirtual 76, 3) := by decide +kernel
theorem dL_law_565 : decode cL_law 565 = .ok (.if_icmp .eq 278, 3) := by decide +kernel
theorem dL_law_570 : decode cL_law 570 = .ok (.aload_n 1, 1) := by decide +kernel
theorem dL_law_571 : decode cL_law 571 = .ok (.aload_n 0, 1) := by decide +kernel
theorem dL_law_572 : decode cL_law 572 = .ok (.iload_n 3, 1) := by decide +kernel
theorem dL_law_573 : decode cL_law 573 = .ok (.iconst 1, 1) := by decide +kernel
theorem dL_law_574 : decode cL_law 574 = .ok (.iadd, 1) := by decide +kernel
theorem dL_law_575 : decode cL_law 575 = .ok (.iaload, 1) := by decide +kernel
theorem dL_law_576 : decode cL_law 576 = .ok (.aload_n 0, 1) := by decide +kernel
theorem dL_law_577 : decode cL_law 577 = .ok (.iload_n 3, 1) := by decide +kernel
theorem dL_law_578 : decode cL_law 578 = .ok (.iconst 2, 1) := by decide +kernel
theorem dL_law_579 : decode cL_law 579 = .ok (.iadd, 1) := by decide +kernel
theorem dL_law_580 : decode cL_law 580 = .ok (.iaload, 1) := by decide +kernel
theorem dL_law_581 : decode cL_law 581 = .ok (.invokevirtual 77, 3) := by decide +kernel
theorem dL_law_584 : decode cL_law 584 = .ok (.aload_n 2, 1) := by decide +kernel
theorem dL_law_585 : decode cL_law 585 = .ok (.aload_n 0, 1) := by decide +kernel
theorem dL_law_586 : decode cL_law 586 = .ok (.iload_n 3, 1) := by decide +kernel
theorem dL_law_587 : decode cL_law 587 = .ok (.iconst 1, 1) := by decide +kernel
theorem dL_law_588 : decode cL_law 588 = .ok (.iadd, 1) := by decide +kernel
theorem dL_law_589 : decode cL_law 589 = .ok (.iaload, 1) := by decide +kernel
theorem dL_law_590 : decode cL_law 590 = .ok (.aload_n 0, 1) := by decide +kernel
theorem dL_law_591 : decode cL_law 591 = .ok (.iload_n 3, 1) := by decide +kernel
theorem dL_law_592 : decode cL_law 592 = .ok (.iconst 2, 1) := by decide +kernel
theorem dL_law_593 : decode cL_law 593 = .ok (.iadd, 1) := by decide +kernel
theorem dL_law_594 : decode cL_law 594 = .ok (.iaload, 1) := by decide +kernel
theorem dL_law_595 : decode cL_law 595 = .ok (.invokevirtual 80, 3) := by decide +kernel
theorem dL_law_598 : decode cL_law 598 = .ok (.if_icmp .eq 245, 3) := by decide +kernel
theorem dL_law_603 : decode cL_law 603 = .ok (.aload_n 1, 1) := by decide +kernel
theorem dL_law_604 : decode cL_law 604 = .ok (.aload_n 0, 1) := by decide +kernel
theorem dL_law_605 : decode cL_law 605 = .ok (.iload_n 3, 1) := by decide +kernel
theorem dL_law_606 : decode cL_law 606 = .ok (.iconst 1, 1) := by decide +kernel
theorem dL_law_607 : decode cL_law 607 = .ok (.iadd, 1) := by decide +kernel
theorem dL_law_608 : decode cL_law 608 = .ok (.iaload, 1) := by decide +kernel
theorem dL_law_609 : decode cL_law 609 = .ok (.invokevirtual 81, 3) := by decide +kernel
theorem dL_law_612 : decode cL_law 612 = .ok (.aload_n 2, 1) := by decide +kernel
theorem dL_law_613 : decode cL_law 613 = .ok (.aload_n 0, 1) := by decide +kernel
theorem dL_law_614 : decode cL_law 614 = .ok (.iload_n 3, 1) := by decide +kernel
theorem dL_law_615 : decode cL_law 615 = .ok (.iconst 1, 1) := by decide +kernel
theorem dL_law_616 : decode cL_law 616 = .ok (.iadd, 1) := by decide +kernel
theorem dL_law_617 : decode cL_law 617 = .ok (.iaload, 1) := by decide +kernel
theorem dL_law_618 : decode cL_law 618 = .ok (.invokevirtual 84, 3) := by decide +kernel
theorem dL_law_621 : decode cL_law 621 = .ok (.if_icmp .eq 222, 3) := by decide +kernel
theorem dL_law_626 : decode cL_law 626 = .ok (.aload_n 1, 1) := by decide +kernel
theorem dL_law_627 : decode cL_law 627 = .ok (.aload_n 0, 1) := by decide +kernel
theorem dL_law_628 : decode cL_law 628 = .ok (.iload_n 3, 1) := by decide +kernel
theorem dL_law_629 : decode cL_law 629 = .ok (.iconst 1, 1) := by decide +kernel
theorem dL_law_630 : decode cL_law 630 = .ok (.iadd, 1) := by decide +kernel
theorem dL_law_631 : decode cL_law 631 = .ok (.iaload, 1) := by decide +kernel
theorem dL_law_632 : decode cL_law 632 = .ok (.aload_n 0, 1) := by decide +kernel
theorem dL_law_633 : decode cL_law 633 = .ok (.iload_n 3, 1) := by decide +kernel
theorem dL_law_634 : decode cL_law 634 = .ok (.iconst 2, 1) := by decide +kernel
theorem dL_law_635 : decode cL_law 635 = .ok (.iadd, 1) := by decide +kernel
theorem dL_law_636 : decode cL_law 636 = .ok (.iaload, 1) := by decide +kernel
theorem dL_law_637 : decode cL_law 637 = .ok (.invokevirtual 85, 3) := by decide +kernel
theorem dL_law_640 : decode cL_law 640 = .ok (.aload_n 2, 1) := by decide +kernel
theorem dL_law_641 : decode cL_law 641 = .ok (.aload_n 0, 1) := by decide +kernel
theorem dL_law_642 : decode cL_law 642 = .ok (.iload_n 3, 1) := by decide +kernel
theorem dL_law_643 : decode cL_law 643 = .ok (.iconst 1, 1) := by decide +kernel
theorem dL_law_644 : decode cL_law 644 = .ok (.iadd, 1) := by decide +kernel
theorem dL_law_645 : decode cL_law 645 = .ok (.iaload, 1) := by decide +kernel
theorem dL_law_646 : decode cL_law 646 = .ok (.aload_n 0, 1) := by decide +kernel
theorem dL_law_647 : decode cL_law 647 = .ok (.iload_n 3, 1) := by decide +kernel
theorem dL_law_648 : decode cL_law 648 = .ok (.iconst 2, 1) := by decide +kernel
theorem dL_law_649 : decode cL_law 649 = .ok (.iadd, 1) := by decide +kernel
theorem dL_law_650 : decode cL_law 650 = .ok (.iaload, 1) := by decide +kernel
theorem dL_law_651 : decode cL_law 651 = .ok (.invokevirtual 88, 3) := by decide +kernel
theorem dL_law_654 : decode cL_law 654 = .ok (.if_icmp .eq 189, 3) := by decide +kernel
set_option maxHeartbeats 8000000 in
set_option maxRecDepth 100000 in
/-- the law at case 9: state -/
theorem arm_9 {p : Program} {l : Launch} {e : Env} {s : State} {m : MethodId} {below : List Frame} {meth : Method} {c : Code} {b : Nat} {xs : Nat → Int32} {A : Nat → Prop} {D : va_G} {x : Nat → ClassId} (C0 : LawC p s m meth c b 6 xs A D x) {n1 n2 n3 n4 n5 : Int32} (hn1 : xs (1 : Int32).toNatClampNeg = n1) (hn2 : xs (2 : Int32).toNatClampNeg = n2) (hn3 : xs (3 : Int32).toNatClampNeg = n3) (hn4 : xs (4 : Int32).toNatClampNeg = n4) (hn5 : xs (5 : Int32).toNatClampNeg = n5) (ph0 : Nat) (pf0 : Nat → Value) (pho : Nat) (pfh : Nat → Value) (pma : Nat) (pfm : Nat → Value) (qh0 : Nat) (qf0 : Nat → Value) (h0_2 : pf0 2 = .ref pho) (h0_3 : pf0 3 = .ref pma) (h1_12 : pfh 12 = .int 0) (h2_4 : pfm 4 = .int 0) (h3_104 : qf0 104 = .int 0) (h3_196 : qf0 196 = .int 0) {H : Heap} {locs : List Loc} {ls : Array Slot} (hP : va_P D vwCl [(ph0, .inr (11, zf 6 pf0)), (pho, .inr (0, zf 18 pfh)), (pma, .inr (2, zf 19 pfm)), (qh0, .inr (12, zf 212 qf0))] H) (hD : va_D A [(ph0, .inr (11, zf 6 pf0)), (pho, .inr (0, zf 18 pfh)), (pma, .inr (2, zf 19 pfm)), (qh0, .inr (12, zf 212 qf0))]) (hS : va_S A s.heap H locs) (hl : lv_has ls 4 [(3, .int 0), (2, .ref qh0), (1, .ref ph0), (0, .ref b)]) : W p l e room_1 s m #[Value.ref b] below meth c H locs 13405 3699129 (lw_Z below #[Value.ref b] s) (F0 m 415 ls []) := by
  obtain ⟨hx, hb, hr, hml, hown, hts, hX, hbl, hlocks, hZ, hA, hA2, hbA⟩ := id C0
  have hK := hZ.1
  refine lv_aload_n hx hb dL_law_415 rfl (lv_at hl 2 rfl) ?_
  refine lv_aload_n hx hb dL_law_416 rfl (lv_at hl 3 rfl) ?_
  refine lv_iload_n hx hb dL_law_417 rfl (lv_at hl 0 rfl) ?_
  refine lv_iconst (v := 1) hx hb dL_law_418 (by decide) ?_
  refine lv_iadd hx hb dL_law_419 ?_
  refine lv_topi (fun y_2 ex_1 => ?_)
  obtain rfl : y_2 = 1 := ex_1.trans (by decide)
  refine z_sld hx hb hX hbl hbA hS (z_in (by decide)) hn1 dL_law_420 ?_
  refine lv_aload_n hx hb dL_law_421 rfl (lv_at hl 3 rfl) ?_
  refine lv_iload_n hx hb dL_law_422 rfl (lv_at hl 0 rfl) ?_
  refine lv_iconst (v := 2) hx hb dL_law_423 (by decide) ?_
  refine lv_iadd hx hb dL_law_424 ?_
  refine lv_topi (fun y_4 ex_3 => ?_)
  obtain rfl : y_4 = 2 := ex_3.trans (by decide)
  refine z_sld hx hb hX hbl hbA hS (z_in (by decide)) hn2 dL_law_425 ?_
  have hPc := hP.sub (ws' := [(ph0, .inr (11, zf 6 pf0)), (pho, .inr (0, zf 18 pfh)), (pma, .inr (2, zf 19 pfm))]) [0, 1, 2] rfl
  have hDc := hD.sub (ws' := [(ph0, .inr (11, zf 6 pf0)), (pho, .inr (0, zf 18 pfh)), (pma, .inr (2, zf 19 pfm))]) [0, 1, 2] (by decide) rfl
  have hFc := va_free (wc := [(ph0, .inr (11, zf 6 pf0)), (pho, .inr (0, zf 18 pfh)), (pma, .inr (2, zf 19 pfm))]) hD hS hA [0, 1, 2] rfl
  refine va_calli (va_runV (As := [.int n1, .int n2]) (rest := []) ⟨hx, hb, hml, hown, hts⟩ (c_state l D x n1 n2 ph0 pf0 pho pfh pma pfm H.size h0_2 h0_3 h1_12 h2_4) ⟨callB_of 2 hts (zgood (zm_233 _) rfl) rfl rfl rfl (hts _ (zm_168 _)) (hts _ (zm_866 _)) ⟨by decide, by decide, by decide +kernel⟩ ⟨Nat.le_of_ble_eq_true rfl, Nat.le_of_ble_eq_true rfl⟩, hts _ (zm_234 _), hts _ (zm_235 _)⟩ ⟨fun a U g mk q => by obtain ⟨q0, q1, qP, qK, qD⟩ := q; exact ⟨q0, q1, qP, ZK.calling (u := U) zN_ok rfl qK, qD⟩, va_recv hK hPc (ci := 11) (q0 := 0) rfl rfl, fun U hU hW => ⟨rfl, by rw [hU], by rw [hU]; exact hPc, ZK.warm zN_ok hW hZ, hDc.weaken (fun _ _ _ _ => trivial)⟩⟩ rfl rfl hl.1 rfl (lv_room (Nat.le_of_ble_eq_true rfl)) dL_law_426 ⟨Nat.le_of_ble_eq_true rfl, Nat.le_of_ble_eq_true rfl⟩) hS (fun q _ h => hFc q h) hFc (fun r_5 u t H1 locs ht hvm hw_5 hB hz1 hk1 hSn => ?_)
  have hP1 : va_P D vwCl [] H1 := z_P0
  have hD1 : va_D (va_A [(ph0, .inr (11, zf 6 pf0)), (pho, .inr (0, zf 18 pfh)), (pma, .inr (2, zf 19 pfm))] H.size) [] := z_D0
  try dsimp only at hw_5
  obtain ⟨hPn, hDn⟩ := va_join (wr := [(qh0, .inr (12, zf 212 qf0))]) (w1 := []) hP hD [0, 1, 2] [3] rfl rfl (by decide) (by decide) hk1 hFc hP1 hD1
  clear hPc hDc hFc hP1 hD1 hk1 hz1
  generalize H1 = H at hPn hSn ⊢
  clear hP hD hS
  have hP : va_P D vwCl [(qh0, .inr (12, zf 212 qf0))] H := hPn
  have hD : va_D A [(qh0, .inr (12, zf 212 qf0))] := hDn
  have hS := hSn
  clear hPn hDn hSn
  refine W.widen (k := 13405) (n := 3699129) (Nat.le_of_ble_eq_true rfl) (Nat.le_of_ble_eq_true rfl) ?_
  obtain rfl : r_5 = (-1) := hw_5
  refine lv_aload_n hx hb dL_law_429 rfl (lv_at hl 1 rfl) ?_
  refine lv_aload_n hx hb dL_law_430 rfl (lv_at hl 3 rfl) ?_
  refine lv_iload_n hx hb dL_law_431 rfl (lv_at hl 0 rfl) ?_
  refine lv_iconst (v := 1) hx hb dL_law_432 (by decide) ?_
  refine lv_iadd hx hb dL_law_433 ?_
  refine lv_topi (fun y_8 ex_7 => ?_)
  obtain rfl : y_8 = 1 := ex_7.trans (by decide)
  refine z_sld hx hb hX hbl hbA hS (z_in (by decide)) hn1 dL_law_434 ?_
  refine lv_aload_n hx hb dL_law_435 rfl (lv_at hl 3 rfl) ?_
  refine lv_iload_n hx hb dL_law_436 rfl (lv_at hl 0 rfl) ?_
  refine lv_iconst (v := 2) hx hb dL_law_437 (by decide) ?_
  refine lv_iadd hx hb dL_law_438 ?_
  refine lv_topi (fun y_10 ex_9 => ?_)
  obtain rfl : y_10 = 2 := ex_9.trans (by decide)
  refine z_sld hx hb hX hbl hbA hS (z_in (by decide)) hn2 dL_law_439 ?_
  have hPc := hP.sub (ws' := [(qh0, .inr (12, zf 212 qf0))]) [0] rfl
  have hDc := hD.sub (ws' := [(qh0, .inr (12, zf 212 qf0))]) [0] (by decide) rfl
  have hFc := va_free (wc := [(qh0, .inr (12, zf 212 qf0))]) hD hS hA [0] rfl
  refine va_calli (va_runV (As := [.int n1, .int n2]) (rest := [.int (-1)]) ⟨hx, hb, hml, hown, hts⟩ (r_state l D x n1 n2 qh0 qf0 H.size h3_104 h3_196) ⟨callB_of 2 hts (zgood (zm_694 _) rfl) rfl rfl rfl (hts _ (zm_459 _)) (hts _ (zm_867 _)) ⟨by decide, by decide, by decide +kernel⟩ ⟨Nat.le_of_ble_eq_true rfl, Nat.le_of_ble_eq_true rfl⟩, hts _ (zm_695 _), hts _ (zm_696 _)⟩ ⟨fun a U g mk q => by obtain ⟨q0, q1, qP, qK, qD⟩ := q; exact ⟨q0, q1, qP, ZK.calling (u := U) zN_ok rfl qK, qD⟩, va_recv hK hPc (ci := 12) (q0 := 0) rfl rfl, fun U hU hW => ⟨rfl, by rw [hU], by rw [hU]; exact hPc, ZK.warm zN_ok hW hZ, hDc.weaken (fun _ _ _ _ => trivial)⟩⟩ rfl rfl hl.1 rfl (lv_room (Nat.le_of_ble_eq_true rfl)) dL_law_440 ⟨Nat.le_of_ble_eq_true rfl, Nat.le_of_ble_eq_true rfl⟩) hS (fun q _ h => hFc q h) hFc (fun r_11 u t H1 locs ht hvm hw_11 hB hz1 hk1 hSn => ?_)
  have hP1 : va_P D vwCl [] H1 := z_P0
  have hD1 : va_D (va_A [(qh0, .inr (12, zf 212 qf0))] H.size) [] := z_D0
  try dsimp only at hw_11
  obtain ⟨hPn, hDn⟩ := va_join (wr := []) (w1 := []) hP hD [0] [] rfl rfl (by decide) (by decide) hk1 hFc hP1 hD1
  clear hPc hDc hFc hP1 hD1 hk1 hz1
  generalize H1 = H at hPn hSn ⊢
  clear hP hD hS
  have hP : va_P D vwCl [] H := hPn
  have hD : va_D A [] := hDn
  have hS := hSn
  clear hPn hDn hSn
  refine W.widen (k := 13405) (n := 3699129) (Nat.le_of_ble_eq_true rfl) (Nat.le_of_ble_eq_true rfl) ?_
  obtain rfl : r_11 = (-1) := hw_11
  refine lv_icmp_eq (tgt := 843) hx hb dL_law_443 (by decide) (fun _ => ?_) (fun c9 => absurd (by decide) c9)
  exact law_tail C0 hS hl

set_option maxHeartbeats 8000000 in
set_option maxRecDepth 100000 in
/-- the law at case 10: written -/
theorem arm_10 {p : Program} {l : Launch} {e : Env} {s : State} {m : MethodId} {below : List Frame} {meth : Method} {c : Code} {b : Nat} {xs : Nat → Int32} {A : Nat → Prop} {D : va_G} {x : Nat → ClassId} (C0 : LawC p s m meth c b 6 xs A D x) {n1 n2 n3 n4 n5 : Int32} (hn1 : xs (1 : Int32).toNatClampNeg = n1) (hn2 : xs (2 : Int32).toNatClampNeg = n2) (hn3 : xs (3 : Int32).toNatClampNeg = n3) (hn4 : xs (4 : Int32).toNatClampNeg = n4) (hn5 : xs (5 : Int32).toNatClampNeg = n5) (ph0 : Nat) (pf0 : Nat → Value) (pho : Nat) (pfh : Nat → Value) (pma : Nat) (pfm : Nat → Value) (qh0 : Nat) (qf0 : Nat → Value) (h0_2 : pf0 2 = .ref pho) (h0_3 : pf0 3 = .ref pma) (h1_12 : pfh 12 = .int 0) (h2_4 : pfm 4 = .int 0) (h3_104 : qf0 104 = .int 0) (h3_196 : qf0 196 = .int 0) {H : Heap} {locs : List Loc} {ls : Array Slot} (hP : va_P D vwCl [(ph0, .inr (11, zf 6 pf0)), (pho, .inr (0, zf 18 pfh)), (pma, .inr (2, zf 19 pfm)), (qh0, .inr (12, zf 212 qf0))] H) (hD : va_D A [(ph0, .inr (11, zf 6 pf0)), (pho, .inr (0, zf 18 pfh)), (pma, .inr (2, zf 19 pfm)), (qh0, .inr (12, zf 212 qf0))]) (hS : va_S A s.heap H locs) (hl : lv_has ls 4 [(3, .int 0), (2, .ref qh0), (1, .ref ph0), (0, .ref b)]) : W p l e room_1 s m #[Value.ref b] below meth c H locs 13405 3699129 (lw_Z below #[Value.ref b] s) (F0 m 448 ls []) := by
  obtain ⟨hx, hb, hr, hml, hown, hts, hX, hbl, hlocks, hZ, hA, hA2, hbA⟩ := id C0
  have hK := hZ.1
  refine lv_aload_n hx hb dL_law_448 rfl (lv_at hl 2 rfl) ?_
  refine lv_aload_n hx hb dL_law_449 rfl (lv_at hl 3 rfl) ?_
  refine lv_iload_n hx hb dL_law_450 rfl (lv_at hl 0 rfl) ?_
  refine lv_iconst (v := 1) hx hb dL_law_451 (by decide) ?_
  refine lv_iadd hx hb dL_law_452 ?_
  refine lv_topi (fun y_2 ex_1 => ?_)
  obtain rfl : y_2 = 1 := ex_1.trans (by decide)
  refine z_sld hx hb hX hbl hbA hS (z_in (by decide)) hn1 dL_law_453 ?_
  refine lv_aload_n hx hb dL_law_454 rfl (lv_at hl 3 rfl) ?_
  refine lv_iload_n hx hb dL_law_455 rfl (lv_at hl 0 rfl) ?_
  refine lv_iconst (v := 2) hx hb dL_law_456 (by decide) ?_
  refine lv_iadd hx hb dL_law_457 ?_
  refine lv_topi (fun y_4 ex_3 => ?_)
  obtain rfl : y_4 = 2 := ex_3.trans (by decide)
  refine z_sld hx hb hX hbl hbA hS (z_in (by decide)) hn2 dL_law_458 ?_
  have hPc := hP.sub (ws' := [(ph0, .inr (11, zf 6 pf0)), (pho, .inr (0, zf 18 pfh)), (pma, .inr (2, zf 19 pfm))]) [0, 1, 2] rfl
  have hDc := hD.sub (ws' := [(ph0, .inr (11, zf 6 pf0)), (pho, .inr (0, zf 18 pfh)), (pma, .inr (2, zf 19 pfm))]) [0, 1, 2] (by decide) rfl
  have hFc := va_free (wc := [(ph0, .inr (11, zf 6 pf0)), (pho, .inr (0, zf 18 pfh)), (pma, .inr (2, zf 19 pfm))]) hD hS hA [0, 1, 2] rfl
  refine va_calli (va_runV (As := [.int n1, .int n2]) (rest := []) ⟨hx, hb, hml, hown, hts⟩ (c_written l D x n1 n2 ph0 pf0 pho pfh pma pfm H.size h0_2 h0_3 h1_12 h2_4) ⟨callB_of 2 hts (zgood (zm_236 _) rfl) rfl rfl rfl (hts _ (zm_168 _)) (hts _ (zm_868 _)) ⟨by decide, by decide, by decide +kernel⟩ ⟨Nat.le_of_ble_eq_true rfl, Nat.le_of_ble_eq_true rfl⟩, hts _ (zm_237 _), hts _ (zm_238 _)⟩ ⟨fun a U g mk q => by obtain ⟨q0, q1, qP, qK, qD⟩ := q; exact ⟨q0, q1, qP, ZK.calling (u := U) zN_ok rfl qK, qD⟩, va_recv hK hPc (ci := 11) (q0 := 0) rfl rfl, fun U hU hW => ⟨rfl, by rw [hU], by rw [hU]; exact hPc, ZK.warm zN_ok hW hZ, hDc.weaken (fun _ _ _ _ => trivial)⟩⟩ rfl rfl hl.1 rfl (lv_room (Nat.le_of_ble_eq_true rfl)) dL_law_459 ⟨Nat.le_of_ble_eq_true rfl, Nat.le_of_ble_eq_true rfl⟩) hS (fun q _ h => hFc q h) hFc (fun r_5 u t H1 locs ht hvm hw_5 hB hz1 hk1 hSn => ?_)
  have hP1 : va_P D vwCl [] H1 := z_P0
  have hD1 : va_D (va_A [(ph0, .inr (11, zf 6 pf0)), (pho, .inr (0, zf 18 pfh)), (pma, .inr (2, zf 19 pfm))] H.size) [] := z_D0
  try dsimp only at hw_5
  obtain ⟨hPn, hDn⟩ := va_join (wr := [(qh0, .inr (12, zf 212 qf0))]) (w1 := []) hP hD [0, 1, 2] [3] rfl rfl (by decide) (by decide) hk1 hFc hP1 hD1
  clear hPc hDc hFc hP1 hD1 hk1 hz1
  generalize H1 = H at hPn hSn ⊢
  clear hP hD hS
  have hP : va_P D vwCl [(qh0, .inr (12, zf 212 qf0))] H := hPn
  have hD : va_D A [(qh0, .inr (12, zf 212 qf0))] := hDn
  have hS := hSn
  clear hPn hDn hSn
  refine W.widen (k := 13405) (n := 3699129) (Nat.le_of_ble_eq_true rfl) (Nat.le_of_ble_eq_true rfl) ?_
  obtain rfl : r_5 = (-1) := hw_5
  refine lv_aload_n hx hb dL_law_462 rfl (lv_at hl 1 rfl) ?_
  refine lv_aload_n hx hb dL_law_463 rfl (lv_at hl 3 rfl) ?_
  refine lv_iload_n hx hb dL_law_464 rfl (lv_at hl 0 rfl) ?_
  refine lv_iconst (v := 1) hx hb dL_law_465 (by decide) ?_
  refine lv_iadd hx hb dL_law_466 ?_
  refine lv_topi (fun y_8 ex_7 => ?_)
  obtain rfl : y_8 = 1 := ex_7.trans (by decide)
  refine z_sld hx hb hX hbl hbA hS (z_in (by decide)) hn1 dL_law_467 ?_
  refine lv_aload_n hx hb dL_law_468 rfl (lv_at hl 3 rfl) ?_
  refine lv_iload_n hx hb dL_law_469 rfl (lv_at hl 0 rfl) ?_
  refine lv_iconst (v := 2) hx hb dL_law_470 (by decide) ?_
  refine lv_iadd hx hb dL_law_471 ?_
  refine lv_topi (fun y_10 ex_9 => ?_)
  obtain rfl : y_10 = 2 := ex_9.trans (by decide)
  refine z_sld hx hb hX hbl hbA hS (z_in (by decide)) hn2 dL_law_472 ?_
  have hPc := hP.sub (ws' := [(qh0, .inr (12, zf 212 qf0))]) [0] rfl
  have hDc := hD.sub (ws' := [(qh0, .inr (12, zf 212 qf0))]) [0] (by decide) rfl
  have hFc := va_free (wc := [(qh0, .inr (12, zf 212 qf0))]) hD hS hA [0] rfl
  refine va_calli (va_runV (As := [.int n1, .int n2]) (rest := [.int (-1)]) ⟨hx, hb, hml, hown, hts⟩ (r_written l D x n1 n2 qh0 qf0 H.size h3_104 h3_196) ⟨callB_of 2 hts (zgood (zm_699 _) rfl) rfl rfl rfl (hts _ (zm_459 _)) (hts _ (zm_869 _)) ⟨by decide, by decide, by decide +kernel⟩ ⟨Nat.le_of_ble_eq_true rfl, Nat.le_of_ble_eq_true rfl⟩, hts _ (zm_700 _), hts _ (zm_701 _)⟩ ⟨fun a U g mk q => by obtain ⟨q0, q1, qP, qK, qD⟩ := q; exact ⟨q0, q1, qP, ZK.calling (u := U) zN_ok rfl qK, qD⟩, va_recv hK hPc (ci := 12) (q0 := 0) rfl rfl, fun U hU hW => ⟨rfl, by rw [hU], by rw [hU]; exact hPc, ZK.warm zN_ok hW hZ, hDc.weaken (fun _ _ _ _ => trivial)⟩⟩ rfl rfl hl.1 rfl (lv_room (Nat.le_of_ble_eq_true rfl)) dL_law_473 ⟨Nat.le_of_ble_eq_true rfl, Nat.le_of_ble_eq_true rfl⟩) hS (fun q _ h => hFc q h) hFc (fun r_11 u t H1 locs ht hvm hw_11 hB hz1 hk1 hSn => ?_)
  have hP1 : va_P D vwCl [] H1 := z_P0
  have hD1 : va_D (va_A [(qh0, .inr (12, zf 212 qf0))] H.size) [] := z_D0
  try dsimp only at hw_11
  obtain ⟨hPn, hDn⟩ := va_join (wr := []) (w1 := []) hP hD [0] [] rfl rfl (by decide) (by decide) hk1 hFc hP1 hD1
  clear hPc hDc hFc hP1 hD1 hk1 hz1
  generalize H1 = H at hPn hSn ⊢
  clear hP hD hS
  have hP : va_P D vwCl [] H := hPn
  have hD : va_D A [] := hDn
  have hS := hSn
  clear hPn hDn hSn
  refine W.widen (k := 13405) (n := 3699129) (Nat.le_of_ble_eq_true rfl) (Nat.le_of_ble_eq_true rfl) ?_
  obtain rfl : r_11 = (-1) := hw_11
  refine lv_icmp_eq (tgt := 843) hx hb dL_law_476 (by decide) (fun _ => ?_) (fun c9 => absurd (by decide) c9)
  exact law_tail C0 hS hl

set_option maxHeartbeats 8000000 in
set_option maxRecDepth 100000 in
/-- the law at case 11: take -/
theorem arm_11 {p : Program} {l : Launch} {e : Env} {s : State} {m : MethodId} {below : List Frame} {meth : Method} {c : Code} {b : Nat} {xs : Nat → Int32} {A : Nat → Prop} {D : va_G} {x : Nat → ClassId} (C0 : LawC p s m meth c b 6 xs A D x) {n1 n2 n3 n4 n5 : Int32} (hn1 : xs (1 : Int32).toNatClampNeg = n1) (hn2 : xs (2 : Int32).toNatClampNeg = n2) (hn3 : xs (3 : Int32).toNatClampNeg = n3) (hn4 : xs (4 : Int32).toNatClampNeg = n4) (hn5 : xs (5 : Int32).toNatClampNeg = n5) (ph0 : Nat) (pf0 : Nat → Value) (pho : Nat) (pfh : Nat → Value) (pma : Nat) (pfm : Nat → Value) (qh0 : Nat) (qf0 : Nat → Value) (h0_2 : pf0 2 = .ref pho) (h0_3 : pf0 3 = .ref pma) (h1_12 : pfh 12 = .int 0) (h2_4 : pfm 4 = .int 0) (h3_104 : qf0 104 = .int 0) (h3_196 : qf0 196 = .int 0) {H : Heap} {locs : List Loc} {ls : Array Slot} (hP : va_P D vwCl [(ph0, .inr (11, zf 6 pf0)), (pho, .inr (0, zf 18 pfh)), (pma, .inr (2, zf 19 pfm)), (qh0, .inr (12, zf 212 qf0))] H) (hD : va_D A [(ph0, .inr (11, zf 6 pf0)), (pho, .inr (0, zf 18 pfh)), (pma, .inr (2, zf 19 pfm)), (qh0, .inr (12, zf 212 qf0))]) (hS : va_S A s.heap H locs) (hl : lv_has ls 4 [(3, .int 0), (2, .ref qh0), (1, .ref ph0), (0, .ref b)]) : W p l e room_1 s m #[Value.ref b] below meth c H locs 13405 3699129 (lw_Z below #[Value.ref b] s) (F0 m 481 ls []) := by
  obtain ⟨hx, hb, hr, hml, hown, hts, hX, hbl, hlocks, hZ, hA, hA2, hbA⟩ := id C0
  have hK := hZ.1
  refine lv_aload_n hx hb dL_law_481 rfl (lv_at hl 2 rfl) ?_
  refine lv_aload_n hx hb dL_law_482 rfl (lv_at hl 3 rfl) ?_
  refine lv_iload_n hx hb dL_law_483 rfl (lv_at hl 0 rfl) ?_
  refine lv_iconst (v := 1) hx hb dL_law_484 (by decide) ?_
  refine lv_iadd hx hb dL_law_485 ?_
  refine lv_topi (fun y_2 ex_1 => ?_)
  obtain rfl : y_2 = 1 := ex_1.trans (by decide)
  refine z_sld hx hb hX hbl hbA hS (z_in (by decide)) hn1 dL_law_486 ?_
  have hPc := hP.sub (ws' := [(ph0, .inr (11, zf 6 pf0)), (pho, .inr (0, zf 18 pfh)), (pma, .inr (2, zf 19 pfm))]) [0, 1, 2] rfl
  have hDc := hD.sub (ws' := [(ph0, .inr (11, zf 6 pf0)), (pho, .inr (0, zf 18 pfh)), (pma, .inr (2, zf 19 pfm))]) [0, 1, 2] (by decide) rfl
  have hFc := va_free (wc := [(ph0, .inr (11, zf 6 pf0)), (pho, .inr (0, zf 18 pfh)), (pma, .inr (2, zf 19 pfm))]) hD hS hA [0, 1, 2] rfl
  refine va_calli (va_runV (As := [.int n1]) (rest := []) ⟨hx, hb, hml, hown, hts⟩ (c_take l D x n1 ph0 pf0 pho pfh pma pfm H.size h0_2 h0_3 h1_12 h2_4) ⟨callB_of 1 hts (zgood (zm_239 _) rfl) rfl rfl rfl (hts _ (zm_168 _)) (hts _ (zm_870 _)) ⟨by decide, by decide, by decide +kernel⟩ ⟨Nat.le_of_ble_eq_true rfl, Nat.le_of_ble_eq_true rfl⟩, hts _ (zm_240 _), hts _ (zm_241 _)⟩ ⟨fun a U g mk q => by obtain ⟨q0, q1, qP, qK, qD⟩ := q; exact ⟨q0, q1, qP, ZK.calling (u := U) zN_ok rfl qK, qD⟩, va_recv hK hPc (ci := 11) (q0 := 0) rfl rfl, fun U hU hW => ⟨rfl, by rw [hU], by rw [hU]; exact hPc, ZK.warm zN_ok hW hZ, hDc.weaken (fun _ _ _ _ => trivial)⟩⟩ rfl rfl hl.1 rfl (lv_room (Nat.le_of_ble_eq_true rfl)) dL_law_487 ⟨Nat.le_of_ble_eq_true rfl, Nat.le_of_ble_eq_true rfl⟩) hS (fun q _ h => hFc q h) hFc (fun r_3 u t H1 locs ht hvm hw_3 hB hz1 hk1 hSn => ?_)
  have hP1 : va_P D vwCl [] H1 := z_P0
  have hD1 : va_D (va_A [(ph0, .inr (11, zf 6 pf0)), (pho, .inr (0, zf 18 pfh)), (pma, .inr (2, zf 19 pfm))] H.size) [] := z_D0
  try dsimp only at hw_3
  obtain ⟨hPn, hDn⟩ := va_join (wr := [(qh0, .inr (12, zf 212 qf0))]) (w1 := []) hP hD [0, 1, 2] [3] rfl rfl (by decide) (by decide) hk1 hFc hP1 hD1
  clear hPc hDc hFc hP1 hD1 hk1 hz1
  generalize H1 = H at hPn hSn ⊢
  clear hP hD hS
  have hP : va_P D vwCl [(qh0, .inr (12, zf 212 qf0))] H := hPn
  have hD : va_D A [(qh0, .inr (12, zf 212 qf0))] := hDn
  have hS := hSn
  clear hPn hDn hSn
  refine W.widen (k := 13405) (n := 3699129) (Nat.le_of_ble_eq_true rfl) (Nat.le_of_ble_eq_true rfl) ?_
  obtain rfl : r_3 = (-1) := hw_3
  refine lv_aload_n hx hb dL_law_490 rfl (lv_at hl 1 rfl) ?_
  refine lv_aload_n hx hb dL_law_491 rfl (lv_at hl 3 rfl) ?_
  refine lv_iload_n hx hb dL_law_492 rfl (lv_at hl 0 rfl) ?_
  refine lv_iconst (v := 1) hx hb dL_law_493 (by decide) ?_
  refine lv_iadd hx hb dL_law_494 ?_
  refine lv_topi (fun y_6 ex_5 => ?_)
  obtain rfl : y_6 = 1 := ex_5.trans (by decide)
  refine z_sld hx hb hX hbl hbA hS (z_in (by decide)) hn1 dL_law_495 ?_
  have hPc := hP.sub (ws' := [(qh0, .inr (12, zf 212 qf0))]) [0] rfl
  have hDc := hD.sub (ws' := [(qh0, .inr (12, zf 212 qf0))]) [0] (by decide) rfl
  have hFc := va_free (wc := [(qh0, .inr (12, zf 212 qf0))]) hD hS hA [0] rfl
  refine va_calli (va_runV (As := [.int n1]) (rest := [.int (-1)]) ⟨hx, hb, hml, hown, hts⟩ (r_take l D x n1 qh0 qf0 H.size h3_104 h3_196) ⟨callB_of 1 hts (zgood (zm_702 _) rfl) rfl rfl rfl (hts _ (zm_459 _)) (hts _ (zm_871 _)) ⟨by decide, by decide, by decide +kernel⟩ ⟨Nat.le_of_ble_eq_true rfl, Nat.le_of_ble_eq_true rfl⟩, hts _ (zm_703 _), hts _ (zm_704 _)⟩ ⟨fun a U g mk q => by obtain ⟨q0, q1, qP, qK, qD⟩ := q; exact ⟨q0, q1, qP, ZK.calling (u := U) zN_ok rfl qK, qD⟩, va_recv hK hPc (ci := 12) (q0 := 0) rfl rfl, fun U hU hW => ⟨rfl, by rw [hU], by rw [hU]; exact hPc, ZK.warm zN_ok hW hZ, hDc.weaken (fun _ _ _ _ => trivial)⟩⟩ rfl rfl hl.1 rfl (lv_room (Nat.le_of_ble_eq_true rfl)) dL_law_496 ⟨Nat.le_of_ble_eq_true rfl, Nat.le_of_ble_eq_true rfl⟩) hS (fun q _ h => hFc q h) hFc (fun r_7 u t H1 locs ht hvm hw_7 hB hz1 hk1 hSn => ?_)
  have hP1 : va_P D vwCl [] H1 := z_P0
  have hD1 : va_D (va_A [(qh0, .inr (12, zf 212 qf0))] H.size) [] := z_D0
  try dsimp only at hw_7
  obtain ⟨hPn, hDn⟩ := va_join (wr := []) (w1 := []) hP hD [0] [] rfl rfl (by decide) (by decide) hk1 hFc hP1 hD1
  clear hPc hDc hFc hP1 hD1 hk1 hz1
  generalize H1 = H at hPn hSn ⊢
  clear hP hD hS
  have hP : va_P D vwCl [] H := hPn
  have hD : va_D A [] := hDn
  have hS := hSn
  clear hPn hDn hSn
  refine W.widen (k := 13405) (n := 3699129) (Nat.le_of_ble_eq_true rfl) (Nat.le_of_ble_eq_true rfl) ?_
  obtain rfl : r_7 = (-1) := hw_7
  refine lv_icmp_eq (tgt := 843) hx hb dL_law_499 (by decide) (fun _ => ?_) (fun c9 => absurd (by decide) c9)
  exact law_tail C0 hS hl

set_option maxHeartbeats 8000000 in
set_option maxRecDepth 100000 in
/-- the law at case 12: code -/
theorem arm_12 {p : Program} {l : Launch} {e : Env} {s : State} {m : MethodId} {below : List Frame} {meth : Method} {c : Code} {b : Nat} {xs : Nat → Int32} {A : Nat → Prop} {D : va_G} {x : Nat → ClassId} (C0 : LawC p s m meth c b 6 xs A D x) {n1 n2 n3 n4 n5 : Int32} (hn1 : xs (1 : Int32).toNatClampNeg = n1) (hn2 : xs (2 : Int32).toNatClampNeg = n2) (hn3 : xs (3 : Int32).toNatClampNeg = n3) (hn4 : xs (4 : Int32).toNatClampNeg = n4) (hn5 : xs (5 : Int32).toNatClampNeg = n5) (ph0 : Nat) (pf0 : Nat → Value) (pho : Nat) (pfh : Nat → Value) (pma : Nat) (pfm : Nat → Value) (qh0 : Nat) (qf0 : Nat → Value) (h0_2 : pf0 2 = .ref pho) (h0_3 : pf0 3 = .ref pma) (h1_12 : pfh 12 = .int 0) (h2_4 : pfm 4 = .int 0) (h3_104 : qf0 104 = .int 0) (h3_196 : qf0 196 = .int 0) {H : Heap} {locs : List Loc} {ls : Array Slot} (hP : va_P D vwCl [(ph0, .inr (11, zf 6 pf0)), (pho, .inr (0, zf 18 pfh)), (pma, .inr (2, zf 19 pfm)), (qh0, .inr (12, zf 212 qf0))] H) (hD : va_D A [(ph0, .inr (11, zf 6 pf0)), (pho, .inr (0, zf 18 pfh)), (pma, .inr (2, zf 19 pfm)), (qh0, .inr (12, zf 212 qf0))]) (hS : va_S A s.heap H locs) (hl : lv_has ls 4 [(3, .int 0), (2, .ref qh0), (1, .ref ph0), (0, .ref b)]) : W p l e room_1 s m #[Value.ref b] below meth c H locs 13405 3699129 (lw_Z below #[Value.ref b] s) (F0 m 504 ls []) := by
  obtain ⟨hx, hb, hr, hml, hown, hts, hX, hbl, hlocks, hZ, hA, hA2, hbA⟩ := id C0
  have hK := hZ.1
  refine lv_aload_n hx hb dL_law_504 rfl (lv_at hl 2 rfl) ?_
  refine lv_aload_n hx hb dL_law_505 rfl (lv_at hl 3 rfl) ?_
  refine lv_iload_n hx hb dL_law_506 rfl (lv_at hl 0 rfl) ?_
  refine lv_iconst (v := 1) hx hb dL_law_507 (by decide) ?_
  refine lv_iadd hx hb dL_law_508 ?_
  refine lv_topi (fun y_2 ex_1 => ?_)
  obtain rfl : y_2 = 1 := ex_1.trans (by decide)
  refine z_sld hx hb hX hbl hbA hS (z_in (by decide)) hn1 dL_law_509 ?_
  have hPc := hP.sub (ws' := [(ph0, .inr (11, zf 6 pf0)), (pho, .inr (0, zf 18 pfh)), (pma, .inr (2, zf 19 pfm))]) [0, 1, 2] rfl
  have hDc := hD.sub (ws' := [(ph0, .inr (11, zf 6 pf0)), (pho, .inr (0, zf 18 pfh)), (pma, .inr (2, zf 19 pfm))]) [0, 1, 2] (by decide) rfl
  have hFc := va_free (wc := [(ph0, .inr (11, zf 6 pf0)), (pho, .inr (0, zf 18 pfh)), (pma, .inr (2, zf 19 pfm))]) hD hS hA [0, 1, 2] rfl
  refine va_calli (va_runV (As := [.int n1]) (rest := []) ⟨hx, hb, hml, hown, hts⟩ (c_code l D x n1 ph0 pf0 pho pfh pma pfm H.size h0_2 h0_3 h1_12 h2_4) ⟨callB_of 1 hts (zgood (zm_242 _) rfl) rfl rfl rfl (hts _ (zm_168 _)) (hts _ (zm_872 _)) ⟨by decide, by decide, by decide +kernel⟩ ⟨Nat.le_of_ble_eq_true rfl, Nat.le_of_ble_eq_true rfl⟩, hts _ (zm_243 _), hts _ (zm_244 _)⟩ ⟨fun a U g mk q => by obtain ⟨q0, q1, qP, qK, qD⟩ := q; exact ⟨q0, q1, qP, ZK.calling (u := U) zN_ok rfl qK, qD⟩, va_recv hK hPc (ci := 11) (q0 := 0) rfl rfl, fun U hU hW => ⟨rfl, by rw [hU], by rw [hU]; exact hPc, ZK.warm zN_ok hW hZ, hDc.weaken (fun _ _ _ _ => trivial)⟩⟩ rfl rfl hl.1 rfl (lv_room (Nat.le_of_ble_eq_true rfl)) dL_law_510 ⟨Nat.le_of_ble_eq_true rfl, Nat.le_of_ble_eq_true rfl⟩) hS (fun q _ h => hFc q h) hFc (fun r_3 u t H1 locs ht hvm hw_3 hB hz1 hk1 hSn => ?_)
  have hP1 : va_P D vwCl [] H1 := z_P0
  have hD1 : va_D (va_A [(ph0, .inr (11, zf 6 pf0)), (pho, .inr (0, zf 18 pfh)), (pma, .inr (2, zf 19 pfm))] H.size) [] := z_D0
  try dsimp only at hw_3
  obtain ⟨hPn, hDn⟩ := va_join (wr := [(qh0, .inr (12, zf 212 qf0))]) (w1 := []) hP hD [0, 1, 2] [3] rfl rfl (by decide) (by decide) hk1 hFc hP1 hD1
  clear hPc hDc hFc hP1 hD1 hk1 hz1
  generalize H1 = H at hPn hSn ⊢
  clear hP hD hS
  have hP : va_P D vwCl [(qh0, .inr (12, zf 212 qf0))] H := hPn
  have hD : va_D A [(qh0, .inr (12, zf 212 qf0))] := hDn
  have hS := hSn
  clear hPn hDn hSn
  refine W.widen (k := 13405) (n := 3699129) (Nat.le_of_ble_eq_true rfl) (Nat.le_of_ble_eq_true rfl) ?_
  obtain rfl : r_3 = (-1) := hw_3
  refine lv_aload_n hx hb dL_law_513 rfl (lv_at hl 1 rfl) ?_
  refine lv_aload_n hx hb dL_law_514 rfl (lv_at hl 3 rfl) ?_
  refine lv_iload_n hx hb dL_law_515 rfl (lv_at hl 0 rfl) ?_
  refine lv_iconst (v := 1) hx hb dL_law_516 (by decide) ?_
  refine lv_iadd hx hb dL_law_517 ?_
  refine lv_topi (fun y_6 ex_5 => ?_)
  obtain rfl : y_6 = 1 := ex_5.trans (by decide)
  refine z_sld hx hb hX hbl hbA hS (z_in (by decide)) hn1 dL_law_518 ?_
  have hPc := hP.sub (ws' := [(qh0, .inr (12, zf 212 qf0))]) [0] rfl
  have hDc := hD.sub (ws' := [(qh0, .inr (12, zf 212 qf0))]) [0] (by decide) rfl
  have hFc := va_free (wc := [(qh0, .inr (12, zf 212 qf0))]) hD hS hA [0] rfl
  refine va_calli (va_runV (As := [.int n1]) (rest := [.int (-1)]) ⟨hx, hb, hml, hown, hts⟩ (r_code l D x n1 qh0 qf0 H.size h3_104 h3_196) ⟨callB_of 1 hts (zgood (zm_705 _) rfl) rfl rfl rfl (hts _ (zm_459 _)) (hts _ (zm_873 _)) ⟨by decide, by decide, by decide +kernel⟩ ⟨Nat.le_of_ble_eq_true rfl, Nat.le_of_ble_eq_true rfl⟩, hts _ (zm_706 _), hts _ (zm_707 _)⟩ ⟨fun a U g mk q => by obtain ⟨q0, q1, qP, qK, qD⟩ := q; exact ⟨q0, q1, qP, ZK.calling (u := U) zN_ok rfl qK, qD⟩, va_recv hK hPc (ci := 12) (q0 := 0) rfl rfl, fun U hU hW => ⟨rfl, by rw [hU], by rw [hU]; exact hPc, ZK.warm zN_ok hW hZ, hDc.weaken (fun _ _ _ _ => trivial)⟩⟩ rfl rfl hl.1 rfl (lv_room (Nat.le_of_ble_eq_true rfl)) dL_law_519 ⟨Nat.le_of_ble_eq_true rfl, Nat.le_of_ble_eq_true rfl⟩) hS (fun q _ h => hFc q h) hFc (fun r_7 u t H1 locs ht hvm hw_7 hB hz1 hk1 hSn => ?_)
  have hP1 : va_P D vwCl [] H1 := z_P0
  have hD1 : va_D (va_A [(qh0, .inr (12, zf 212 qf0))] H.size) [] := z_D0
  try dsimp only at hw_7
  obtain ⟨hPn, hDn⟩ := va_join (wr := []) (w1 := []) hP hD [0] [] rfl rfl (by decide) (by decide) hk1 hFc hP1 hD1
  clear hPc hDc hFc hP1 hD1 hk1 hz1
  generalize H1 = H at hPn hSn ⊢
  clear hP hD hS
  have hP : va_P D vwCl [] H := hPn
  have hD : va_D A [] := hDn
  have hS := hSn
  clear hPn hDn hSn
  refine W.widen (k := 13405) (n := 3699129) (Nat.le_of_ble_eq_true rfl) (Nat.le_of_ble_eq_true rfl) ?_
  obtain rfl : r_7 = (-1) := hw_7
  refine lv_icmp_eq (tgt := 843) hx hb dL_law_522 (by decide) (fun _ => ?_) (fun c9 => absurd (by decide) c9)
  exact law_tail C0 hS hl

set_option maxHeartbeats 8000000 in
set_option maxRecDepth 100000 in
/-- the law at case 13: level -/
theorem arm_13 {p : Program} {l : Launch} {e : Env} {s : State} {m : MethodId} {below : List Frame} {meth : Method} {c : Code} {b : Nat} {xs : Nat → Int32} {A : Nat → Prop} {D : va_G} {x : Nat → ClassId} (C0 : LawC p s m meth c b 6 xs A D x) {n1 n2 n3 n4 n5 : Int32} (hn1 : xs (1 : Int32).toNatClampNeg = n1) (hn2 : xs (2 : Int32).toNatClampNeg = n2) (hn3 : xs (3 : Int32).toNatClampNeg = n3) (hn4 : xs (4 : Int32).toNatClampNeg = n4) (hn5 : xs (5 : Int32).toNatClampNeg = n5) (ph0 : Nat) (pf0 : Nat → Value) (pho : Nat) (pfh : Nat → Value) (pma : Nat) (pfm : Nat → Value) (qh0 : Nat) (qf0 : Nat → Value) (h0_2 : pf0 2 = .ref pho) (h0_3 : pf0 3 = .ref pma) (h1_12 : pfh 12 = .int 0) (h2_4 : pfm 4 = .int 0) (h3_104 : qf0 104 = .int 0) (h3_196 : qf0 196 = .int 0) {H : Heap} {locs : List Loc} {ls : Array Slot} (hP : va_P D vwCl [(ph0, .inr (11, zf 6 pf0)), (pho, .inr (0, zf 18 pfh)), (pma, .inr (2, zf 19 pfm)), (qh0, .inr (12, zf 212 qf0))] H) (hD : va_D A [(ph0, .inr (11, zf 6 pf0)), (pho, .inr (0, zf 18 pfh)), (pma, .inr (2, zf 19 pfm)), (qh0, .inr (12, zf 212 qf0))]) (hS : va_S A s.heap H locs) (hl : lv_has ls 4 [(3, .int 0), (2, .ref qh0), (1, .ref ph0), (0, .ref b)]) : W p l e room_1 s m #[Value.ref b] below meth c H locs 13405 3699129 (lw_Z below #[Value.ref b] s) (F0 m 527 ls []) := by
  obtain ⟨hx, hb, hr, hml, hown, hts, hX, hbl, hlocks, hZ, hA, hA2, hbA⟩ := id C0
  have hK := hZ.1
  refine lv_aload_n hx hb dL_law_527 rfl (lv_at hl 2 rfl) ?_
  refine lv_aload_n hx hb dL_law_528 rfl (lv_at hl 3 rfl) ?_
  refine lv_iload_n hx hb dL_law_529 rfl (lv_at hl 0 rfl) ?_
  refine lv_iconst (v := 1) hx hb dL_law_530 (by decide) ?_
  refine lv_iadd hx hb dL_law_531 ?_
  refine lv_topi (fun y_2 ex_1 => ?_)
  obtain rfl : y_2 = 1 := ex_1.trans (by decide)
  refine z_sld hx hb hX hbl hbA hS (z_in (by decide)) hn1 dL_law_532 ?_
  refine lv_aload_n hx hb dL_law_533 rfl (lv_at hl 3 rfl) ?_
  refine lv_iload_n hx hb dL_law_534 rfl (lv_at hl 0 rfl) ?_
  refine lv_iconst (v := 2) hx hb dL_law_535 (by decide) ?_
  refine lv_iadd hx hb dL_law_536 ?_
  refine lv_topi (fun y_4 ex_3 => ?_)
  obtain rfl : y_4 = 2 := ex_3.trans (by decide)
  refine z_sld hx hb hX hbl hbA hS (z_in (by decide)) hn2 dL_law_537 ?_
  refine lv_aload_n hx hb dL_law_538 rfl (lv_at hl 3 rfl) ?_
  refine lv_iload_n hx hb dL_law_539 rfl (lv_at hl 0 rfl) ?_
  refine lv_iconst (v := 3) hx hb dL_law_540 (by decide) ?_
  refine lv_iadd hx hb dL_law_541 ?_
  refine lv_topi (fun y_6 ex_5 => ?_)
  obtain rfl : y_6 = 3 := ex_5.trans (by decide)
  refine z_sld hx hb hX hbl hbA hS (z_in (by decide)) hn3 dL_law_542 ?_
  have hPc := hP.sub (ws' := [(ph0, .inr (11, zf 6 pf0)), (pho, .inr (0, zf 18 pfh)), (pma, .inr (2, zf 19 pfm))]) [0, 1, 2] rfl
  have hDc := hD.sub (ws' := [(ph0, .inr (11, zf 6 pf0)), (pho, .inr (0, zf 18 pfh)), (pma, .inr (2, zf 19 pfm))]) [0, 1, 2] (by decide) rfl
  have hFc := va_free (wc := [(ph0, .inr (11, zf 6 pf0)), (pho, .inr (0, zf 18 pfh)), (pma, .inr (2, zf 19 pfm))]) hD hS hA [0, 1, 2] rfl
  refine va_calli (va_runV (As := [.int n1, .int n2, .int n3]) (rest := []) ⟨hx, hb, hml, hown, hts⟩ (c_level l D x n1 n2 n3 ph0 pf0 pho pfh pma pfm H.size h0_2 h0_3 h1_12 h2_4) ⟨callB_of 3 hts (zgood (zm_245 _) rfl) rfl rfl rfl (hts _ (zm_168 _)) (hts _ (zm_874 _)) ⟨by decide, by decide, by decide +kernel⟩ ⟨Nat.le_of_ble_eq_true rfl, Nat.le_of_ble_eq_true rfl⟩, hts _ (zm_246 _), hts _ (zm_247 _)⟩ ⟨fun a U g mk q => by obtain ⟨q0, q1, qP, qK, qD⟩ := q; exact ⟨q0, q1, qP, ZK.calling (u := U) zN_ok rfl qK, qD⟩, va_recv hK hPc (ci := 11) (q0 := 0) rfl rfl, fun U hU hW => ⟨rfl, by rw [hU], by rw [hU]; exact hPc, ZK.warm zN_ok hW hZ, hDc.weaken (fun _ _ _ _ => trivial)⟩⟩ rfl rfl hl.1 rfl (lv_room (Nat.le_of_ble_eq_true rfl)) dL_law_543 ⟨Nat.le_of_ble_eq_true rfl, Nat.le_of_ble_eq_true rfl⟩) hS (fun q _ h => hFc q h) hFc (fun r_7 u t H1 locs ht hvm hw_7 hB hz1 hk1 hSn => ?_)
  have hP1 : va_P D vwCl [] H1 := z_P0
  have hD1 : va_D (va_A [(ph0, .inr (11, zf 6 pf0)), (pho, .inr (0, zf 18 pfh)), (pma, .inr (2, zf 19 pfm))] H.size) [] := z_D0
  try dsimp only at hw_7
  obtain ⟨hPn, hDn⟩ := va_join (wr := [(qh0, .inr (12, zf 212 qf0))]) (w1 := []) hP hD [0, 1, 2] [3] rfl rfl (by decide) (by decide) hk1 hFc hP1 hD1
  clear hPc hDc hFc hP1 hD1 hk1 hz1
  generalize H1 = H at hPn hSn ⊢
  clear hP hD hS
  have hP : va_P D vwCl [(qh0, .inr (12, zf 212 qf0))] H := hPn
  have hD : va_D A [(qh0, .inr (12, zf 212 qf0))] := hDn
  have hS := hSn
  clear hPn hDn hSn
  refine W.widen (k := 13405) (n := 3699129) (Nat.le_of_ble_eq_true rfl) (Nat.le_of_ble_eq_true rfl) ?_
  obtain rfl : r_7 = (-1) := hw_7
  refine lv_aload_n hx hb dL_law_546 rfl (lv_at hl 1 rfl) ?_
  refine lv_aload_n hx hb dL_law_547 rfl (lv_at hl 3 rfl) ?_
  refine lv_iload_n hx hb dL_law_548 rfl (lv_at hl 0 rfl) ?_
  refine lv_iconst (v := 1) hx hb dL_law_549 (by decide) ?_
  refine lv_iadd hx hb dL_law_550 ?_
  refine lv_topi (fun y_10 ex_9 => ?_)
  obtain rfl : y_10 = 1 := ex_9.trans (by decide)
  refine z_sld hx hb hX hbl hbA hS (z_in (by decide)) hn1 dL_law_551 ?_
  refine lv_aload_n hx hb dL_law_552 rfl (lv_at hl 3 rfl) ?_
  refine lv_iload_n hx hb dL_law_553 rfl (lv_at hl 0 rfl) ?_
  refine lv_iconst (v := 2) hx hb dL_law_554 (by decide) ?_
  refine lv_iadd hx hb dL_law_555 ?_
  refine lv_topi (fun y_12 ex_11 => ?_)
  obtain rfl : y_12 = 2 := ex_11.trans (by decide)
  refine z_sld hx hb hX hbl hbA hS (z_in (by decide)) hn2 dL_law_556 ?_
  refine lv_aload_n hx hb dL_law_557 rfl (lv_at hl 3 rfl) ?_
  refine lv_iload_n hx hb dL_law_558 rfl (lv_at hl 0 rfl) ?_
  refine lv_iconst (v := 3) hx hb dL_law_559 (by decide) ?_
  refine lv_iadd hx hb dL_law_560 ?_
  refine lv_topi (fun y_14 ex_13 => ?_)
  obtain rfl : y_14 = 3 := ex_13.trans (by decide)
  refine z_sld hx hb hX hbl hbA hS (z_in (by decide)) hn3 dL_law_561 ?_
  have hPc := hP.sub (ws' := [(qh0, .inr (12, zf 212 qf0))]) [0] rfl
  have hDc := hD.sub (ws' := [(qh0, .inr (12, zf 212 qf0))]) [0] (by decide) rfl
  have hFc := va_free (wc := [(qh0, .inr (12, zf 212 qf0))]) hD hS hA [0] rfl
  refine va_calli (va_runV (As := [.int n1, .int n2, .int n3]) (rest := [.int (-1)]) ⟨hx, hb, hml, hown, hts⟩ (r_level l D x n1 n2 n3 qh0 qf0 H.size h3_104 h3_196) ⟨callB_of 3 hts (zgood (zm_829 _) rfl) rfl rfl rfl (hts _ (zm_459 _)) (hts _ (zm_875 _)) ⟨by decide, by decide, by decide +kernel⟩ ⟨Nat.le_of_ble_eq_true rfl, Nat.le_of_ble_eq_true rfl⟩, hts _ (zm_830 _), hts _ (zm_831 _)⟩ ⟨fun a U g mk q => by obtain ⟨q0, q1, qP, qK, qD⟩ := q; exact ⟨q0, q1, qP, ZK.calling (u := U) zN_ok rfl qK, qD⟩, va_recv hK hPc (ci := 12) (q0 := 0) rfl rfl, fun U hU hW => ⟨rfl, by rw [hU], by rw [hU]; exact hPc, ZK.warm zN_ok hW hZ, hDc.weaken (fun _ _ _ _ => trivial)⟩⟩ rfl rfl hl.1 rfl (lv_room (Nat.le_of_ble_eq_true rfl)) dL_law_562 ⟨Nat.le_of_ble_eq_true rfl, Nat.le_of_ble_eq_true rfl⟩) hS (fun q _ h => hFc q h) hFc (fun r_15 u t H1 locs ht hvm hw_15 hB hz1 hk1 hSn => ?_)
  have hP1 : va_P D vwCl [] H1 := z_P0
  have hD1 : va_D (va_A [(qh0, .inr (12, zf 212 qf0))] H.size) [] := z_D0
  try dsimp only at hw_15
  obtain ⟨hPn, hDn⟩ := va_join (wr := []) (w1 := []) hP hD [0] [] rfl rfl (by decide) (by decide) hk1 hFc hP1 hD1
  clear hPc hDc hFc hP1 hD1 hk1 hz1
  generalize H1 = H at hPn hSn ⊢
  clear hP hD hS
  have hP : va_P D vwCl [] H := hPn
  have hD : va_D A [] := hDn
  have hS := hSn
  clear hPn hDn hSn
  refine W.widen (k := 13405) (n := 3699129) (Nat.le_of_ble_eq_true rfl) (Nat.le_of_ble_eq_true rfl) ?_
  obtain rfl : r_15 = (-1) := hw_15
  refine lv_icmp_eq (tgt := 843) hx hb dL_law_565 (by decide) (fun _ => ?_) (fun c9 => absurd (by decide) c9)
  exact law_tail C0 hS hl

set_option maxHeartbeats 8000000 in
set_option maxRecDepth 100000 in
/-- the law at case 14: look -/
theorem arm_14 {p : Program} {l : Launch} {e : Env} {s : State} {m : MethodId} {below : List Frame} {meth : Method} {c : Code} {b : Nat} {xs : Nat → Int32} {A : Nat → Prop} {D : va_G} {x : Nat → ClassId} (C0 : LawC p s m meth c b 6 xs A D x) {n1 n2 n3 n4 n5 : Int32} (hn1 : xs (1 : Int32).toNatClampNeg = n1) (hn2 : xs (2 : Int32).toNatClampNeg = n2) (hn3 : xs (3 : Int32).toNatClampNeg = n3) (hn4 : xs (4 : Int32).toNatClampNeg = n4) (hn5 : xs (5 : Int32).toNatClampNeg = n5) (ph0 : Nat) (pf0 : Nat → Value) (pho : Nat) (pfh : Nat → Value) (pma : Nat) (pfm : Nat → Value) (pta : Nat) (pft : Nat → Value) (pno : Nat) (pfn : Nat → Value) (qh0 : Nat) (qf0 : Nat → Value) (pva : Nat) (pb0 : Nat) (h0_2 : pf0 2 = .ref pho) (h0_3 : pf0 3 = .ref pma) (h0_0 : pf0 0 = .ref pta) (h0_5 : pf0 5 = .ref pva) (h0_4 : pf0 4 = .ref pno) (h1_12 : pfh 12 = .int 0) (h2_4 : pfm 4 = .int 0) (h3_0 : pft 0 = .ref pb0) (h3_1 : pft 1 = .int 0) (h5_195 : qf0 195 = .int 0) (h5_104 : qf0 104 = .int 0) (h5_196 : qf0 196 = .int 0) {H : Heap} {locs : List Loc} {ls : Array Slot} (hP : va_P D vwCl [(ph0, .inr (11, zf 6 pf0)), (pho, .inr (0, zf 18 pfh)), (pma, .inr (2, zf 19 pfm)), (pta, .inr (6, zf 3 pft)), (pno, .inr (3, zf 9 pfn)), (qh0, .inr (12, zf 212 qf0))] H) (hD : va_D A [(ph0, .inr (11, zf 6 pf0)), (pho, .inr (0, zf 18 pfh)), (pma, .inr (2, zf 19 pfm)), (pta, .inr (6, zf 3 pft)), (pno, .inr (3, zf 9 pfn)), (qh0, .inr (12, zf 212 qf0))]) (hS : va_S A s.heap H locs) (hl : lv_has ls 4 [(3, .int 0), (2, .ref qh0), (1, .ref ph0), (0, .ref b)]) : W p l e room_1 s m #[Value.ref b] below meth c H locs 13405 3699129 (lw_Z below #[Value.ref b] s) (F0 m 570 ls []) := by
  obtain ⟨hx, hb, hr, hml, hown, hts, hX, hbl, hlocks, hZ, hA, hA2, hbA⟩ := id C0
  have hK := hZ.1
  refine lv_aload_n hx hb dL_law_570 rfl (lv_at hl 2 rfl) ?_
  refine lv_aload_n hx hb dL_law_571 rfl (lv_at hl 3 rfl) ?_
  refine lv_iload_n hx hb dL_law_572 rfl (lv_at hl 0 rfl) ?_
  refine lv_iconst (v := 1) hx hb dL_law_573 (by decide) ?_
  refine lv_iadd hx hb dL_law_574 ?_
  refine lv_topi (fun y_2 ex_1 => ?_)
  obtain rfl : y_2 = 1 := ex_1.trans (by decide)
  refine z_sld hx hb hX hbl hbA hS (z_in (by decide)) hn1 dL_law_575 ?_
  refine lv_aload_n hx hb dL_law_576 rfl (lv_at hl 3 rfl) ?_
  refine lv_iload_n hx hb dL_law_577 rfl (lv_at hl 0 rfl) ?_
  refine lv_iconst (v := 2) hx hb dL_law_578 (by decide) ?_
  refine lv_iadd hx hb dL_law_579 ?_
  refine lv_topi (fun y_4 ex_3 => ?_)
  obtain rfl : y_4 = 2 := ex_3.trans (by decide)
  refine z_sld hx hb hX hbl hbA hS (z_in (by decide)) hn2 dL_law_580 ?_
  have hPc := hP.sub (ws' := [(ph0, .inr (11, zf 6 pf0)), (pho, .inr (0, zf 18 pfh)), (pma, .inr (2, zf 19 pfm)), (pta, .inr (6, zf 3 pft)), (pno, .inr (3, zf 9 pfn))]) [0, 1, 2, 3, 4] rfl
  have hDc := hD.sub (ws' := [(ph0, .inr (11, zf 6 pf0)), (pho, .inr (0, zf 18 pfh)), (pma, .inr (2, zf 19 pfm)), (pta, .inr (6, zf 3 pft)), (pno, .inr (3, zf 9 pfn))]) [0, 1, 2, 3, 4] (by decide) rfl
  have hFc := va_free (wc := [(ph0, .inr (11, zf 6 pf0)), (pho, .inr (0, zf 18 pfh)), (pma, .inr (2, zf 19 pfm)), (pta, .inr (6, zf 3 pft)), (pno, .inr (3, zf 9 pfn))]) hD hS hA [0, 1, 2, 3, 4] rfl
  refine va_calli (va_runV (As := [.int n1, .int n2]) (rest := []) ⟨hx, hb, hml, hown, hts⟩ (c_look l D x n1 n2 ph0 pf0 pho pfh pma pfm pta pft pno pfn pva pb0 H.size h0_2 h0_3 h0_0 h0_5 h0_4 h1_12 h2_4 h3_0 h3_1) ⟨callB_of 2 hts (zgood (zm_248 _) rfl) rfl rfl rfl (hts _ (zm_168 _)) (hts _ (zm_876 _)) ⟨by decide, by decide, by decide +kernel⟩ ⟨Nat.le_of_ble_eq_true rfl, Nat.le_of_ble_eq_true rfl⟩, hts _ (zm_249 _), hts _ (zm_250 _)⟩ ⟨fun a U g mk q => by obtain ⟨q0, q1, qP, qK, qD⟩ := q; exact ⟨q0, q1, qP, ZK.calling (u := U) zN_ok rfl qK, qD⟩, va_recv hK hPc (ci := 11) (q0 := 0) rfl rfl, fun U hU hW => ⟨rfl, by rw [hU], by rw [hU]; exact hPc, ZK.warm zN_ok hW hZ, hDc.weaken (fun _ _ _ _ => trivial)⟩⟩ rfl rfl hl.1 rfl (lv_room (Nat.le_of_ble_eq_true rfl)) dL_law_581 ⟨Nat.le_of_ble_eq_true rfl, Nat.le_of_ble_eq_true rfl⟩) hS (fun q _ h => hFc q h) hFc (fun r_5 u t H1 locs ht hvm hw_5 hB hz1 hk1 hSn => ?_)
  have hP1 : va_P D vwCl [] H1 := z_P0
  have hD1 : va_D (va_A [(ph0, .inr (11, zf 6 pf0)), (pho, .inr (0, zf 18 pfh)), (pma, .inr (2, zf 19 pfm)), (pta, .inr (6, zf 3 pft)), (pno, .inr (3, zf 9 pfn))] H.size) [] := z_D0
  try dsimp only at hw_5
  obtain ⟨hPn, hDn⟩ := va_join (wr := [(qh0, .inr (12, zf 212 qf0))]) (w1 := []) hP hD [0, 1, 2, 3, 4] [5] rfl rfl (by decide) (by decide) hk1 hFc hP1 hD1
  clear hPc hDc hFc hP1 hD1 hk1 hz1
  generalize H1 = H at hPn hSn ⊢
  clear hP hD hS
  have hP : va_P D vwCl [(qh0, .inr (12, zf 212 qf0))] H := hPn
  have hD : va_D A [(qh0, .inr (12, zf 212 qf0))] := hDn
  have hS := hSn
  clear hPn hDn hSn
  refine W.widen (k := 13405) (n := 3699129) (Nat.le_of_ble_eq_true rfl) (Nat.le_of_ble_eq_true rfl) ?_
  obtain rfl : r_5 = (-1) := hw_5
  refine lv_aload_n hx hb dL_law_584 rfl (lv_at hl 1 rfl) ?_
  refine lv_aload_n hx hb dL_law_585 rfl (lv_at hl 3 rfl) ?_
  refine lv_iload_n hx hb dL_law_586 rfl (lv_at hl 0 rfl) ?_
  refine lv_iconst (v := 1) hx hb dL_law_587 (by decide) ?_
  refine lv_iadd hx hb dL_law_588 ?_
  refine lv_topi (fun y_8 ex_7 => ?_)
  obtain rfl : y_8 = 1 := ex_7.trans (by decide)
  refine z_sld hx hb hX hbl hbA hS (z_in (by decide)) hn1 dL_law_589 ?_
  refine lv_aload_n hx hb dL_law_590 rfl (lv_at hl 3 rfl) ?_
  refine lv_iload_n hx hb dL_law_591 rfl (lv_at hl 0 rfl) ?_
  refine lv_iconst (v := 2) hx hb dL_law_592 (by decide) ?_
  refine lv_iadd hx hb dL_law_593 ?_
  refine lv_topi (fun y_10 ex_9 => ?_)
  obtain rfl : y_10 = 2 := ex_9.trans (by decide)
  refine z_sld hx hb hX hbl hbA hS (z_in (by decide)) hn2 dL_law_594 ?_
  have hPc := hP.sub (ws' := [(qh0, .inr (12, zf 212 qf0))]) [0] rfl
  have hDc := hD.sub (ws' := [(qh0, .inr (12, zf 212 qf0))]) [0] (by decide) rfl
  have hFc := va_free (wc := [(qh0, .inr (12, zf 212 qf0))]) hD hS hA [0] rfl
  refine va_calli (va_runV (As := [.int n1, .int n2]) (rest := [.int (-1)]) ⟨hx, hb, hml, hown, hts⟩ (r_look l D x n1 n2 qh0 qf0 H.size h5_195 h5_104 h5_196) ⟨callB_of 2 hts (zgood (zm_713 _) rfl) rfl rfl rfl (hts _ (zm_459 _)) (hts _ (zm_877 _)) ⟨by decide, by decide, by decide +kernel⟩ ⟨Nat.le_of_ble_eq_true rfl, Nat.le_of_ble_eq_true rfl⟩, hts _ (zm_714 _), hts _ (zm_715 _)⟩ ⟨fun a U g mk q => by obtain ⟨q0, q1, qP, qK, qD⟩ := q; exact ⟨q0, q1, qP, ZK.calling (u := U) zN_ok rfl qK, qD⟩, va_recv hK hPc (ci := 12) (q0 := 0) rfl rfl, fun U hU hW => ⟨rfl, by rw [hU], by rw [hU]; exact hPc, ZK.warm zN_ok hW hZ, hDc.weaken (fun _ _ _ _ => trivial)⟩⟩ rfl rfl hl.1 rfl (lv_room (Nat.le_of_ble_eq_true rfl)) dL_law_595 ⟨Nat.le_of_ble_eq_true rfl, Nat.le_of_ble_eq_true rfl⟩) hS (fun q _ h => hFc q h) hFc (fun r_11 u t H1 locs ht hvm hw_11 hB hz1 hk1 hSn => ?_)
  have hP1 : va_P D vwCl [] H1 := z_P0
  have hD1 : va_D (va_A [(qh0, .inr (12, zf 212 qf0))] H.size) [] := z_D0
  try dsimp only at hw_11
  obtain ⟨hPn, hDn⟩ := va_join (wr := []) (w1 := []) hP hD [0] [] rfl rfl (by decide) (by decide) hk1 hFc hP1 hD1
  clear hPc hDc hFc hP1 hD1 hk1 hz1
  generalize H1 = H at hPn hSn ⊢
  clear hP hD hS
  have hP : va_P D vwCl [] H := hPn
  have hD : va_D A [] := hDn
  have hS := hSn
  clear hPn hDn hSn
  refine W.widen (k := 13405) (n := 3699129) (Nat.le_of_ble_eq_true rfl) (Nat.le_of_ble_eq_true rfl) ?_
  obtain rfl : r_11 = (-1) := hw_11
  refine lv_icmp_eq (tgt := 843) hx hb dL_law_598 (by decide) (fun _ => ?_) (fun c9 => absurd (by decide) c9)
  exact law_tail C0 hS hl

set_option maxHeartbeats 8000000 in
set_option maxRecDepth 100000 in
/-- the law at case 15: result -/
theorem arm_15 {p : Program} {l : Launch} {e : Env} {s : State} {m : MethodId} {below : List Frame} {meth : Method} {c : Code} {b : Nat} {xs : Nat → Int32} {A : Nat → Prop} {D : va_G} {x : Nat → ClassId} (C0 : LawC p s m meth c b 6 xs A D x) {n1 n2 n3 n4 n5 : Int32} (hn1 : xs (1 : Int32).toNatClampNeg = n1) (hn2 : xs (2 : Int32).toNatClampNeg = n2) (hn3 : xs (3 : Int32).toNatClampNeg = n3) (hn4 : xs (4 : Int32).toNatClampNeg = n4) (hn5 : xs (5 : Int32).toNatClampNeg = n5) (ph0 : Nat) (pf0 : Nat → Value) (pre : Nat) (pft : Nat → Value) (qh0 : Nat) (qf0 : Nat → Value) (h0_1 : pf0 1 = .ref pre) (h1_1 : pft 1 = .int 0) (h2_200 : qf0 200 = .int 0) {H : Heap} {locs : List Loc} {ls : Array Slot} (hP : va_P D vwCl [(ph0, .inr (11, zf 6 pf0)), (pre, .inr (6, zf 3 pft)), (qh0, .inr (12, zf 212 qf0))] H) (hD : va_D A [(ph0, .inr (11, zf 6 pf0)), (pre, .inr (6, zf 3 pft)), (qh0, .inr (12, zf 212 qf0))]) (hS : va_S A s.heap H locs) (hl : lv_has ls 4 [(3, .int 0), (2, .ref qh0), (1, .ref ph0), (0, .ref b)]) : W p l e room_1 s m #[Value.ref b] below meth c H locs 13405 3699129 (lw_Z below #[Value.ref b] s) (F0 m 603 ls []) := by
  obtain ⟨hx, hb, hr, hml, hown, hts, hX, hbl, hlocks, hZ, hA, hA2, hbA⟩ := id C0
  have hK := hZ.1
  refine lv_aload_n hx hb dL_law_603 rfl (lv_at hl 2 rfl) ?_
  refine lv_aload_n hx hb dL_law_604 rfl (lv_at hl 3 rfl) ?_
  refine lv_iload_n hx hb dL_law_605 rfl (lv_at hl 0 rfl) ?_
  refine lv_iconst (v := 1) hx hb dL_law_606 (by decide) ?_
  refine lv_iadd hx hb dL_law_607 ?_
  refine lv_topi (fun y_2 ex_1 => ?_)
  obtain rfl : y_2 = 1 := ex_1.trans (by decide)
  refine z_sld hx hb hX hbl hbA hS (z_in (by decide)) hn1 dL_law_608 ?_
  have hPc := hP.sub (ws' := [(ph0, .inr (11, zf 6 pf0)), (pre, .inr (6, zf 3 pft))]) [0, 1] rfl
  have hDc := hD.sub (ws' := [(ph0, .inr (11, zf 6 pf0)), (pre, .inr (6, zf 3 pft))]) [0, 1] (by decide) rfl
  have hFc := va_free (wc := [(ph0, .inr (11, zf 6 pf0)), (pre, .inr (6, zf 3 pft))]) hD hS hA [0, 1] rfl
  refine va_calli (va_runV (As := [.int n1]) (rest := []) ⟨hx, hb, hml, hown, hts⟩ (c_result l D x n1 ph0 pf0 pre pft H.size h0_1 h1_1) ⟨callB_of 1 hts (zgood (zm_251 _) rfl) rfl rfl rfl (hts _ (zm_168 _)) (hts _ (zm_878 _)) ⟨by decide, by decide, by decide +kernel⟩ ⟨Nat.le_of_ble_eq_true rfl, Nat.le_of_ble_eq_true rfl⟩, hts _ (zm_252 _), hts _ (zm_253 _)⟩ ⟨fun a U g mk q => by obtain ⟨q0, q1, qP, qK, qD⟩ := q; exact ⟨q0, q1, qP, ZK.calling (u := U) zN_ok rfl qK, qD⟩, va_recv hK hPc (ci := 11) (q0 := 0) rfl rfl, fun U hU hW => ⟨rfl, by rw [hU], by rw [hU]; exact hPc, ZK.warm zN_ok hW hZ, hDc.weaken (fun _ _ _ _ => trivial)⟩⟩ rfl rfl hl.1 rfl (lv_room (Nat.le_of_ble_eq_true rfl)) dL_law_609 ⟨Nat.le_of_ble_eq_true rfl, Nat.le_of_ble_eq_true rfl⟩) hS (fun q _ h => hFc q h) hFc (fun r_3 u t H1 locs ht hvm hw_3 hB hz1 hk1 hSn => ?_)
  have hP1 : va_P D vwCl [] H1 := z_P0
  have hD1 : va_D (va_A [(ph0, .inr (11, zf 6 pf0)), (pre, .inr (6, zf 3 pft))] H.size) [] := z_D0
  try dsimp only at hw_3
  obtain ⟨hPn, hDn⟩ := va_join (wr := [(qh0, .inr (12, zf 212 qf0))]) (w1 := []) hP hD [0, 1] [2] rfl rfl (by decide) (by decide) hk1 hFc hP1 hD1
  clear hPc hDc hFc hP1 hD1 hk1 hz1
  generalize H1 = H at hPn hSn ⊢
  clear hP hD hS
  have hP : va_P D vwCl [(qh0, .inr (12, zf 212 qf0))] H := hPn
  have hD : va_D A [(qh0, .inr (12, zf 212 qf0))] := hDn
  have hS := hSn
  clear hPn hDn hSn
  refine W.widen (k := 13405) (n := 3699129) (Nat.le_of_ble_eq_true rfl) (Nat.le_of_ble_eq_true rfl) ?_
  obtain rfl : r_3 = (-1) := hw_3
  refine lv_aload_n hx hb dL_law_612 rfl (lv_at hl 1 rfl) ?_
  refine lv_aload_n hx hb dL_law_613 rfl (lv_at hl 3 rfl) ?_
  refine lv_iload_n hx hb dL_law_614 rfl (lv_at hl 0 rfl) ?_
  refine lv_iconst (v := 1) hx hb dL_law_615 (by decide) ?_
  refine lv_iadd hx hb dL_law_616 ?_
  refine lv_topi (fun y_6 ex_5 => ?_)
  obtain rfl : y_6 = 1 := ex_5.trans (by decide)
  refine z_sld hx hb hX hbl hbA hS (z_in (by decide)) hn1 dL_law_617 ?_
  have hPc := hP.sub (ws' := [(qh0, .inr (12, zf 212 qf0))]) [0] rfl
  have hDc := hD.sub (ws' := [(qh0, .inr (12, zf 212 qf0))]) [0] (by decide) rfl
  have hFc := va_free (wc := [(qh0, .inr (12, zf 212 qf0))]) hD hS hA [0] rfl
  refine va_calli (va_runV (As := [.int n1]) (rest := [.int (-1)]) ⟨hx, hb, hml, hown, hts⟩ (r_result l D x n1 qh0 qf0 H.size h2_200) ⟨callB_of 1 hts (zgood (zm_732 _) rfl) rfl rfl rfl (hts _ (zm_459 _)) (hts _ (zm_879 _)) ⟨by decide, by decide, by decide +kernel⟩ ⟨Nat.le_of_ble_eq_true rfl, Nat.le_of_ble_eq_true rfl⟩, hts _ (zm_733 _), hts _ (zm_734 _)⟩ ⟨fun a U g mk q => by obtain ⟨q0, q1, qP, qK, qD⟩ := q; exact ⟨q0, q1, qP, ZK.calling (u := U) zN_ok rfl qK, qD⟩, va_recv hK hPc (ci := 12) (q0 := 0) rfl rfl, fun U hU hW => ⟨rfl, by rw [hU], by rw [hU]; exact hPc, ZK.warm zN_ok hW hZ, hDc.weaken (fun _ _ _ _ => trivial)⟩⟩ rfl rfl hl.1 rfl (lv_room (Nat.le_of_ble_eq_true rfl)) dL_law_618 ⟨Nat.le_of_ble_eq_true rfl, Nat.le_of_ble_eq_true rfl⟩) hS (fun q _ h => hFc q h) hFc (fun r_7 u t H1 locs ht hvm hw_7 hB hz1 hk1 hSn => ?_)
  have hP1 : va_P D vwCl [] H1 := z_P0
  have hD1 : va_D (va_A [(qh0, .inr (12, zf 212 qf0))] H.size) [] := z_D0
  try dsimp only at hw_7
  obtain ⟨hPn, hDn⟩ := va_join (wr := []) (w1 := []) hP hD [0] [] rfl rfl (by decide) (by decide) hk1 hFc hP1 hD1
  clear hPc hDc hFc hP1 hD1 hk1 hz1
  generalize H1 = H at hPn hSn ⊢
  clear hP hD hS
  have hP : va_P D vwCl [] H := hPn
  have hD : va_D A [] := hDn
  have hS := hSn
  clear hPn hDn hSn
  refine W.widen (k := 13405) (n := 3699129) (Nat.le_of_ble_eq_true rfl) (Nat.le_of_ble_eq_true rfl) ?_
  obtain rfl : r_7 = (-1) := hw_7
  refine lv_icmp_eq (tgt := 843) hx hb dL_law_621 (by decide) (fun _ => ?_) (fun c9 => absurd (by decide) c9)
  exact law_tail C0 hS hl

set_option maxHeartbeats 8000000 in
set_option maxRecDepth 100000 in
/-- the law at case 16: lock -/
theorem arm_16 {p : Program} {l : Launch} {e : Env} {s : State} {m : MethodId} {below : List Frame} {meth : Method} {c : Code} {b : Nat} {xs : Nat → Int32} {A : Nat → Prop} {D : va_G} {x : Nat → ClassId} (C0 : LawC p s m meth c b 6 xs A D x) {n1 n2 n3 n4 n5 : Int32} (hn1 : xs (1 : Int32).toNatClampNeg = n1) (hn2 : xs (2 : Int32).toNatClampNeg = n2) (hn3 : xs (3 : Int32).toNatClampNeg = n3) (hn4 : xs (4 : Int32).toNatClampNeg = n4) (hn5 : xs (5 : Int32).toNatClampNeg = n5) (ph0 : Nat) (pf0 : Nat → Value) (pho : Nat) (pfh : Nat → Value) (qh0 : Nat) (qf0 : Nat → Value) (h0_2 : pf0 2 = .ref pho) (h1_12 : pfh 12 = .int 0) (h1_14 : pfh 14 = .int 0) (h2_161 : qf0 161 = .int 0) (h2_196 : qf0 196 = .int 0) {H : Heap} {locs : List Loc} {ls : Array Slot} (hP : va_P D vwCl [(ph0, .inr (11, zf 6 pf0)), (pho, .inr (0, zf 18 pfh)), (qh0, .inr (12, zf 212 qf0))] H) (hD : va_D A [(ph0, .inr (11, zf 6 pf0)), (pho, .inr (0, zf 18 pfh)), (qh0, .inr (12, zf 212 qf0))]) (hS : va_S A s.heap H locs) (hl : lv_has ls 4 [(3, .int 0), (2, .ref qh0), (1, .ref ph0), (0, .ref b)]) : W p l e room_1 s m #[Value.ref b] below meth c H locs 13405 3699129 (lw_Z below #[Value.ref b] s) (F0 m 626 ls []) := by
  obtain ⟨hx, hb, hr, hml, hown, hts, hX, hbl, hlocks, hZ, hA, hA2, hbA⟩ := id C0
  have hK := hZ.1
  refine lv_aload_n hx hb dL_law_626 rfl (lv_at hl 2 rfl) ?_
  refine lv_aload_n hx hb dL_law_627 rfl (lv_at hl 3 rfl) ?_
  refine lv_iload_n hx hb dL_law_628 rfl (lv_at hl 0 rfl) ?_
  refine lv_iconst (v := 1) hx hb dL_law_629 (by decide) ?_
  refine lv_iadd hx hb dL_law_630 ?_
  refine lv_topi (fun y_2 ex_1 => ?_)
  obtain rfl : y_2 = 1 := ex_1.trans (by decide)
  refine z_sld hx hb hX hbl hbA hS (z_in (by decide)) hn1 dL_law_631 ?_
  refine lv_aload_n hx hb dL_law_632 rfl (lv_at hl 3 rfl) ?_
  refine lv_iload_n hx hb dL_law_633 rfl (lv_at hl 0 rfl) ?_
  refine lv_iconst (v := 2) hx hb dL_law_634 (by decide) ?_
  refine lv_iadd hx hb dL_law_635 ?_
  refine lv_topi (fun y_4 ex_3 => ?_)
  obtain rfl : y_4 = 2 := ex_3.trans (by decide)
  refine z_sld hx hb hX hbl hbA hS (z_in (by decide)) hn2 dL_law_636 ?_
  have hPc := hP.sub (ws' := [(ph0, .inr (11, zf 6 pf0)), (pho, .inr (0, zf 18 pfh))]) [0, 1] rfl
  have hDc := hD.sub (ws' := [(ph0, .inr (11, zf 6 pf0)), (pho, .inr (0, zf 18 pfh))]) [0, 1] (by decide) rfl
  have hFc := va_free (wc := [(ph0, .inr (11, zf 6 pf0)), (pho, .inr (0, zf 18 pfh))]) hD hS hA [0, 1] rfl
  refine va_calli (va_runV (As := [.int n1, .int n2]) (rest := []) ⟨hx, hb, hml, hown, hts⟩ (c_lock l D x n1 n2 ph0 pf0 pho pfh H.size h0_2 h1_12 h1_14) ⟨callB_of 2 hts (zgood (zm_254 _) rfl) rfl rfl rfl (hts _ (zm_168 _)) (hts _ (zm_880 _)) ⟨by decide, by decide, by decide +kernel⟩ ⟨Nat.le_of_ble_eq_true rfl, Nat.le_of_ble_eq_true rfl⟩, hts _ (zm_255 _), hts _ (zm_256 _)⟩ ⟨fun a U g mk q => by obtain ⟨q0, q1, qP, qK, qD⟩ := q; exact ⟨q0, q1, qP, ZK.calling (u := U) zN_ok rfl qK, qD⟩, va_recv hK hPc (ci := 11) (q0 := 0) rfl rfl, fun U hU hW => ⟨rfl, by rw [hU], by rw [hU]; exact hPc, ZK.warm zN_ok hW hZ, hDc.weaken (fun _ _ _ _ => trivial)⟩⟩ rfl rfl hl.1 rfl (lv_room (Nat.le_of_ble_eq_true rfl)) dL_law_637 ⟨Nat.le_of_ble_eq_true rfl, Nat.le_of_ble_eq_true rfl⟩) hS (fun q _ h => hFc q h) hFc (fun r_5 u t H1 locs ht hvm hw_5 hB hz1 hk1 hSn => ?_)
  have hP1 : va_P D vwCl [] H1 := z_P0
  have hD1 : va_D (va_A [(ph0, .inr (11, zf 6 pf0)), (pho, .inr (0, zf 18 pfh))] H.size) [] := z_D0
  try dsimp only at hw_5
  obtain ⟨hPn, hDn⟩ := va_join (wr := [(qh0, .inr (12, zf 212 qf0))]) (w1 := []) hP hD [0, 1] [2] rfl rfl (by decide) (by decide) hk1 hFc hP1 hD1
  clear hPc hDc hFc hP1 hD1 hk1 hz1
  generalize H1 = H at hPn hSn ⊢
  clear hP hD hS
  have hP : va_P D vwCl [(qh0, .inr (12, zf 212 qf0))] H := hPn
  have hD : va_D A [(qh0, .inr (12, zf 212 qf0))] := hDn
  have hS := hSn
  clear hPn hDn hSn
  refine W.widen (k := 13405) (n := 3699129) (Nat.le_of_ble_eq_true rfl) (Nat.le_of_ble_eq_true rfl) ?_
  obtain rfl : r_5 = (-1) := hw_5
  refine lv_aload_n hx hb dL_law_640 rfl (lv_at hl 1 rfl) ?_
  refine lv_aload_n hx hb dL_law_641 rfl (lv_at hl 3 rfl) ?_
  refine lv_iload_n hx hb dL_law_642 rfl (lv_at hl 0 rfl) ?_
  refine lv_iconst (v := 1) hx hb dL_law_643 (by decide) ?_
  refine lv_iadd hx hb dL_law_644 ?_
  refine lv_topi (fun y_8 ex_7 => ?_)
  obtain rfl : y_8 = 1 := ex_7.trans (by decide)
  refine z_sld hx hb hX hbl hbA hS (z_in (by decide)) hn1 dL_law_645 ?_
  refine lv_aload_n hx hb dL_law_646 rfl (lv_at hl 3 rfl) ?_
  refine lv_iload_n hx hb dL_law_647 rfl (lv_at hl 0 rfl) ?_
  refine lv_iconst (v := 2) hx hb dL_law_648 (by decide) ?_
  refine lv_iadd hx hb dL_law_649 ?_
  refine lv_topi (fun y_10 ex_9 => ?_)
  obtain rfl : y_10 = 2 := ex_9.trans (by decide)
  refine z_sld hx hb hX hbl hbA hS (z_in (by decide)) hn2 dL_law_650 ?_
  have hPc := hP.sub (ws' := [(qh0, .inr (12, zf 212 qf0))]) [0] rfl
  have hDc := hD.sub (ws' := [(qh0, .inr (12, zf 212 qf0))]) [0] (by decide) rfl
  have hFc := va_free (wc := [(qh0, .inr (12, zf 212 qf0))]) hD hS hA [0] rfl
  refine va_calli (va_runV (As := [.int n1, .int n2]) (rest := [.int (-1)]) ⟨hx, hb, hml, hown, hts⟩ (r_lock l D x n1 n2 qh0 qf0 H.size h2_161 h2_196) ⟨callB_of 2 hts (zgood (zm_836 _) rfl) rfl rfl rfl (hts _ (zm_459 _)) (hts _ (zm_881 _)) ⟨by decide, by decide, by decide +kernel⟩ ⟨Nat.le_of_ble_eq_true rfl, Nat.le_of_ble_eq_true rfl⟩, hts _ (zm_837 _), hts _ (zm_838 _)⟩ ⟨fun a U g mk q => by obtain ⟨q0, q1, qP, qK, qD⟩ := q; exact ⟨q0, q1, qP, ZK.calling (u := U) zN_ok rfl qK, qD⟩, va_recv hK hPc (ci := 12) (q0 := 0) rfl rfl, fun U hU hW => ⟨rfl, by rw [hU], by rw [hU]; exact hPc, ZK.warm zN_ok hW hZ, hDc.weaken (fun _ _ _ _ => trivial)⟩⟩ rfl rfl hl.1 rfl (lv_room (Nat.le_of_ble_eq_true rfl)) dL_law_651 ⟨Nat.le_of_ble_eq_true rfl, Nat.le_of_ble_eq_true rfl⟩) hS (fun q _ h => hFc q h) hFc (fun r_11 u t H1 locs ht hvm hw_11 hB hz1 hk1 hSn => ?_)
  have hP1 : va_P D vwCl [] H1 := z_P0
  have hD1 : va_D (va_A [(qh0, .inr (12, zf 212 qf0))] H.size) [] := z_D0
  try dsimp only at hw_11
  obtain ⟨hPn, hDn⟩ := va_join (wr := []) (w1 := []) hP hD [0] [] rfl rfl (by decide) (by decide) hk1 hFc hP1 hD1
  clear hPc hDc hFc hP1 hD1 hk1 hz1
  generalize H1 = H at hPn hSn ⊢
  clear hP hD hS
  have hP : va_P D vwCl [] H := hPn
  have hD : va_D A [] := hDn
  have hS := hSn
  clear hPn hDn hSn
  refine W.widen (k := 13405) (n := 3699129) (Nat.le_of_ble_eq_true rfl) (Nat.le_of_ble_eq_true rfl) ?_
  obtain rfl : r_11 = (-1) := hw_11
  refine lv_icmp_eq (tgt := 843) hx hb dL_law_654 (by decide) (fun _ => ?_) (fun c9 => absurd (by decide) c9)
  exact law_tail C0 hS hl
