theorem dW_394 : decode code 394 = .ok (.aload_n 1, 1) := by decide +kernel
theorem dW_395 : decode code 395 = .ok (.aload_n 0, 1) := by decide +kernel
theorem dW_396 : decode code 396 = .ok (.iload 4, 2) := by decide +kernel
theorem dW_398 : decode code 398 = .ok (.iconst 1, 1) := by decide +kernel
theorem dW_399 : decode code 399 = .ok (.iadd, 1) := by decide +kernel
theorem dW_400 : decode code 400 = .ok (.iaload, 1) := by decide +kernel
theorem dW_401 : decode code 401 = .ok (.aload_n 0, 1) := by decide +kernel
theorem dW_402 : decode code 402 = .ok (.iload 4, 2) := by decide +kernel
theorem dW_404 : decode code 404 = .ok (.iconst 2, 1) := by decide +kernel
theorem dW_405 : decode code 405 = .ok (.iadd, 1) := by decide +kernel
theorem dW_406 : decode code 406 = .ok (.iaload, 1) := by decide +kernel
theorem dW_407 : decode code 407 = .ok (.aload_n 0, 1) := by decide +kernel
theorem dW_408 : decode code 408 = .ok (.iload 4, 2) := by decide +kernel
theorem dW_410 : decode code 410 = .ok (.iconst 3, 1) := by decide +kernel
theorem dW_411 : decode code 411 = .ok (.iadd, 1) := by decide +kernel
theorem dW_412 : decode code 412 = .ok (.iaload, 1) := by decide +kernel
theorem dW_413 : decode code 413 = .ok (.aload_n 0, 1) := by decide +kernel
theorem dW_414 : decode code 414 = .ok (.iload 4, 2) := by decide +kernel
theorem dW_416 : decode code 416 = .ok (.iconst 4, 1) := by decide +kernel
theorem dW_417 : decode code 417 = .ok (.iadd, 1) := by decide +kernel
theorem dW_418 : decode code 418 = .ok (.iaload, 1) := by decide +kernel
theorem dW_419 : decode code 419 = .ok (.aload_n 3, 1) := by decide +kernel
theorem dW_420 : decode code 420 = .ok (.invokestatic 119, 3) := by decide +kernel
theorem dW_423 : decode code 423 = .ok (.istore 5, 2) := by decide +kernel
theorem dW_425 : decode code 425 = .ok (.aload_n 2, 1) := by decide +kernel
theorem dW_426 : decode code 426 = .ok (.aload_n 0, 1) := by decide +kernel
theorem dW_427 : decode code 427 = .ok (.iload 4, 2) := by decide +kernel
theorem dW_429 : decode code 429 = .ok (.iconst 1, 1) := by decide +kernel
theorem dW_430 : decode code 430 = .ok (.iadd, 1) := by decide +kernel
theorem dW_431 : decode code 431 = .ok (.iaload, 1) := by decide +kernel
theorem dW_432 : decode code 432 = .ok (.aload_n 0, 1) := by decide +kernel
theorem dW_433 : decode code 433 = .ok (.iload 4, 2) := by decide +kernel
theorem dW_435 : decode code 435 = .ok (.iconst 2, 1) := by decide +kernel
theorem dW_436 : decode code 436 = .ok (.iadd, 1) := by decide +kernel
theorem dW_437 : decode code 437 = .ok (.iaload, 1) := by decide +kernel
theorem dW_438 : decode code 438 = .ok (.aload_n 0, 1) := by decide +kernel
theorem dW_439 : decode code 439 = .ok (.iload 4, 2) := by decide +kernel
theorem dW_441 : decode code 441 = .ok (.iconst 3, 1) := by decide +kernel
theorem dW_442 : decode code 442 = .ok (.iadd, 1) := by decide +kernel
theorem dW_443 : decode code 443 = .ok (.iaload, 1) := by decide +kernel
theorem dW_444 : decode code 444 = .ok (.aload_n 0, 1) := by decide +kernel
theorem dW_445 : decode code 445 = .ok (.iload 4, 2) := by decide +kernel
theorem dW_447 : decode code 447 = .ok (.iconst 4, 1) := by decide +kernel
theorem dW_448 : decode code 448 = .ok (.iadd, 1) := by decide +kernel
theorem dW_449 : decode code 449 = .ok (.iaload, 1) := by decide +kernel
theorem dW_450 : decode code 450 = .ok (.invokevirtual 122, 3) := by decide +kernel
theorem dW_453 : decode code 453 = .ok (.istore 6, 2) := by decide +kernel
theorem dW_455 : decode code 455 = .ok (.aload_n 2, 1) := by decide +kernel
theorem dW_456 : decode code 456 = .ok (.invokevirtual 107, 3) := by decide +kernel
theorem dW_459 : decode code 459 = .ok (.iload 5, 2) := by decide +kernel
theorem dW_461 : decode code 461 = .ok (.if_icmp .eq 5, 3) := by decide +kernel
theorem dW_466 : decode code 466 = .ok (.iload 5, 2) := by decide +kernel
theorem dW_468 : decode code 468 = .ok (.ifCond .ne 15, 3) := by decide +kernel
theorem dW_471 : decode code 471 = .ok (.aload_n 3, 1) := by decide +kernel
theorem dW_472 : decode code 472 = .ok (.iconst 0, 1) := by decide +kernel
theorem dW_473 : decode code 473 = .ok (.laload, 1) := by decide +kernel
theorem dW_474 : decode code 474 = .ok (.iload 6, 2) := by decide +kernel
theorem dW_476 : decode code 476 = .ok (.i2l, 1) := by decide +kernel
theorem dW_477 : decode code 477 = .ok (.lcmp, 1) := by decide +kernel
theorem dW_478 : decode code 478 = .ok (.ifCond .eq 5, 3) := by decide +kernel
theorem dW_483 : decode code 483 = .ok (.goto 1577, 3) := by decide +kernel
theorem dW_486 : decode code 486 = .ok (.aload_n 1, 1) := by decide +kernel
theorem dW_487 : decode code 487 = .ok (.aload_n 0, 1) := by decide +kernel
theorem dW_488 : decode code 488 = .ok (.iload 4, 2) := by decide +kernel
theorem dW_490 : decode code 490 = .ok (.iconst 1, 1) := by decide +kernel
theorem dW_491 : decode code 491 = .ok (.iadd, 1) := by decide +kernel
theorem dW_492 : decode code 492 = .ok (.iaload, 1) := by decide +kernel
theorem dW_493 : decode code 493 = .ok (.aload_n 0, 1) := by decide +kernel
theorem dW_494 : decode code 494 = .ok (.iload 4, 2) := by decide +kernel
theorem dW_496 : decode code 496 = .ok (.iconst 2, 1) := by decide +kernel
theorem dW_497 : decode code 497 = .ok (.iadd, 1) := by decide +kernel
theorem dW_498 : decode code 498 = .ok (.iaload, 1) := by decide +kernel
theorem dW_499 : decode code 499 = .ok (.aload_n 0, 1) := by decide +kernel
theorem dW_500 : decode code 500 = .ok (.iload 4, 2) := by decide +kernel
theorem dW_502 : decode code 502 = .ok (.iconst 3, 1) := by decide +kernel
theorem dW_503 : decode code 503 = .ok (.iadd, 1) := by decide +kernel
theorem dW_504 : decode code 504 = .ok (.iaload, 1) := by decide +kernel
theorem dW_505 : decode code 505 = .ok (.aload_n 3, 1) := by decide +kernel
theorem dW_506 : decode code 506 = .ok (.invokestatic 123, 3) := by decide +kernel
theorem dW_509 : decode code 509 = .ok (.istore 5, 2) := by decide +kernel
theorem dW_511 : decode code 511 = .ok (.aload_n 2, 1) := by decide +kernel
theorem dW_512 : decode code 512 = .ok (.aload_n 0, 1) := by decide +kernel
theorem dW_513 : decode code 513 = .ok (.iload 4, 2) := by decide +kernel
theorem dW_515 : decode code 515 = .ok (.iconst 1, 1) := by decide +kernel
theorem dW_516 : decode code 516 = .ok (.iadd, 1) := by decide +kernel
theorem dW_517 : decode code 517 = .ok (.iaload, 1) := by decide +kernel
theorem dW_518 : decode code 518 = .ok (.aload_n 0, 1) := by decide +kernel
theorem dW_519 : decode code 519 = .ok (.iload 4, 2) := by decide +kernel
theorem dW_521 : decode code 521 = .ok (.iconst 2, 1) := by decide +kernel
theorem dW_522 : decode code 522 = .ok (.iadd, 1) := by decide +kernel
theorem dW_523 : decode code 523 = .ok (.iaload, 1) := by decide +kernel
theorem dW_524 : decode code 524 = .ok (.aload_n 0, 1) := by decide +kernel
theorem dW_525 : decode code 525 = .ok (.iload 4, 2) := by decide +kernel
theorem dW_527 : decode code 527 = .ok (.iconst 3, 1) := by decide +kernel
theorem dW_528 : decode code 528 = .ok (.iadd, 1) := by decide +kernel
theorem dW_529 : decode code 529 = .ok (.iaload, 1) := by decide +kernel
theorem dW_530 : decode code 530 = .ok (.invokevirtual 126, 3) := by decide +kernel
theorem dW_533 : decode code 533 = .ok (.istore 6, 2) := by decide +kernel
theorem dW_535 : decode code 535 = .ok (.aload_n 2, 1) := by decide +kernel
theorem dW_536 : decode code 536 = .ok (.invokevirtual 107, 3) := by decide +kernel
theorem dW_539 : decode code 539 = .ok (.iload 5, 2) := by decide +kernel
theorem dW_541 : decode code 541 = .ok (.if_icmp .eq 5, 3) := by decide +kernel
theorem dW_546 : decode code 546 = .ok (.iload 5, 2) := by decide +kernel
theorem dW_548 : decode code 548 = .ok (.ifCond .ne 15, 3) := by decide +kernel
theorem dW_551 : decode code 551 = .ok (.aload_n 3, 1) := by decide +kernel
theorem dW_552 : decode code 552 = .ok (.iconst 0, 1) := by decide +kernel
theorem dW_553 : decode code 553 = .ok (.laload, 1) := by decide +kernel
theorem dW_554 : decode code 554 = .ok (.iload 6, 2) := by decide +kernel
theorem dW_556 : decode code 556 = .ok (.i2l, 1) := by decide +kernel
theorem dW_557 : decode code 557 = .ok (.lcmp, 1) := by decide +kernel
theorem dW_558 : decode code 558 = .ok (.ifCond .eq 5, 3) := by decide +kernel
theorem dW_563 : decode code 563 = .ok (.goto 1497, 3) := by decide +kernel
theorem dW_566 : decode code 566 = .ok (.aload_n 1, 1) := by decide +kernel
theorem dW_567 : decode code 567 = .ok (.invokevirtual 127, 3) := by decide +kernel
theorem dW_570 : decode code 570 = .ok (.aload_n 2, 1) := by decide +kernel
theorem dW_571 : decode code 571 = .ok (.invokevirtual 130, 3) := by decide +kernel
theorem dW_574 : decode code 574 = .ok (.if_icmp .eq 1486, 3) := by decide +kernel
theorem dW_579 : decode code 579 = .ok (.aload_n 1, 1) := by decide +kernel
theorem dW_580 : decode code 580 = .ok (.aload_n 0, 1) := by decide +kernel
theorem dW_581 : decode code 581 = .ok (.iload 4, 2) := by decide +kernel
theorem dW_583 : decode code 583 = .ok (.iconst 1, 1) := by decide +kernel
theorem dW_584 : decode code 584 = .ok (.iadd, 1) := by decide +kernel
theorem dW_585 : decode code 585 = .ok (.iaload, 1) := by decide +kernel
theorem dW_586 : decode code 586 = .ok (.aload_n 3, 1) := by decide +kernel
theorem dW_587 : decode code 587 = .ok (.invokestatic 131, 3) := by decide +kernel
theorem dW_590 : decode code 590 = .ok (.istore 5, 2) := by decide +kernel
theorem dW_592 : decode code 592 = .ok (.aload_n 2, 1) := by decide +kernel
theorem dW_593 : decode code 593 = .ok (.aload_n 0, 1) := by decide +kernel
theorem dW_594 : decode code 594 = .ok (.iload 4, 2) := by decide +kernel
theorem dW_596 : decode code 596 = .ok (.iconst 1, 1) := by decide +kernel
theorem dW_597 : decode code 597 = .ok (.iadd, 1) := by decide +kernel
theorem dW_598 : decode code 598 = .ok (.iaload, 1) := by decide +kernel
theorem dW_599 : decode code 599 = .ok (.invokevirtual 133, 3) := by decide +kernel
theorem dW_602 : decode code 602 = .ok (.istore 6, 2) := by decide +kernel
theorem dW_604 : decode code 604 = .ok (.aload_n 2, 1) := by decide +kernel
theorem dW_605 : decode code 605 = .ok (.invokevirtual 107, 3) := by decide +kernel
theorem dW_608 : decode code 608 = .ok (.iload 5, 2) := by decide +kernel
theorem dW_610 : decode code 610 = .ok (.if_icmp .eq 5, 3) := by decide +kernel
theorem dW_615 : decode code 615 = .ok (.iload 5, 2) := by decide +kernel
theorem dW_617 : decode code 617 = .ok (.ifCond .ne 15, 3) := by decide +kernel
theorem dW_620 : decode code 620 = .ok (.aload_n 3, 1) := by decide +kernel
theorem dW_621 : decode code 621 = .ok (.iconst 0, 1) := by decide +kernel
theorem dW_622 : decode code 622 = .ok (.laload, 1) := by decide +kernel
theorem dW_623 : decode code 623 = .ok (.iload 6, 2) := by decide +kernel
theorem dW_625 : decode code 625 = .ok (.i2l, 1) := by decide +kernel
theorem dW_626 : decode code 626 = .ok (.lcmp, 1) := by decide +kernel
theorem dW_627 : decode code 627 = .ok (.ifCond .eq 5, 3) := by decide +kernel
theorem dW_632 : decode code 632 = .ok (.goto 1428, 3) := by decide +kernel
section YLA
variable {x : yC} {l : Launch} {g : yG} {b L : Nat} {xs : Nat → Int32} {Q : State → Prop} {n : Nat} {σ : yM} {cells slots : Nat}
set_option maxHeartbeats 4000000 in
set_option maxRecDepth 100000 in
theorem zc_hole (E : zE x l g b L xs) {N : Int} {A : aA} (G : zG N σ A) (hN0 : 0 ≤ N) (hN : N ≤ 400000000) (hn : 172 ≤ n) {i : Int} (hi : 0 ≤ i ∧ i + 6 ≤ (L : Int)) (hc : cells + 408 ≤ 601024) (hs : slots + 3660 ≤ 7293033) (k : zK x g b Q n N cells slots i) : yV x g 7 Q (SC g) n σ cells slots 394 (zL g b i) [] := by
  obtain ⟨w, h, ⟨T, S, F, P, O, nf, df, nl, lg⟩, ⟨s, re, fo, ra, tu, we, sh⟩, H, ht, K, tl, tb, fa, r1, r2⟩ := A
  obtain ⟨hC, hM, hW⟩ := G
  have hF := E.1
  have ZN := hN0
  refine y_aload_n (pc := 394) hF dW_394 1 rfl ?_
  refine zl_arg (pc := 395) E dW_395 dW_396 dW_398 dW_399 dW_400 rfl rfl (by omega) ?_
  refine zl_arg (pc := 401) E dW_401 dW_402 dW_404 dW_405 dW_406 rfl rfl (by omega) ?_
  refine zl_arg (pc := 407) E dW_407 dW_408 dW_410 dW_411 dW_412 rfl rfl (by omega) ?_
  refine zl_arg (pc := 413) E dW_413 dW_414 dW_416 dW_417 dW_418 rfl rfl (by omega) ?_
  refine y_aload_n (pc := 419) hF dW_419 3 rfl ?_
  refine y_ci (cells' := cells + 4) (slots' := slots + 24) (y_rSL (pc := 420) (na := 6) hF E.2.1 E.2.2.1 (tL_hole E.2.2.2.1 hn _ _ _ _ _ _ _ _ _ _ _ _ _ _ _ _ _ _ _ _ _ _ _ _ _ _ _ hC hW (zA xs i 1) (zA xs i 2) (zA xs i 3) (zA xs i 4) (zA_r xs i 1) (zA_r xs i 2) (zA_r xs i 3) (zA_r xs i 4)) dW_420 w_744 w_745 wl_hole w_85 ⟨by decide, by decide, by decide +kernel⟩ rfl ⟨Nat.le_of_ble_eq_true rfl, Nat.le_of_ble_eq_true rfl⟩ ⟨by show cells + 4 ≤ 601024; omega, by show slots + 24 ≤ 7293033; omega⟩ (Nat.le_of_ble_eq_true rfl) rfl (rest := [])) rfl rfl (fun zk n1 σ1 z1 => ?_)
  refine y_istore (pc := 423) (lv' := zL5 g b i zk) hF dW_423 (by decide) rfl rfl ?_
  have hn1 := Nat.le_trans hn z1.1
  have zM := mV_cG hM z1.2.1
  refine y_aload_n (pc := 425) hF dW_425 2 rfl ?_
  refine zl_arg (pc := 426) E dW_426 dW_427 dW_429 dW_430 dW_431 rfl rfl (by omega) ?_
  refine zl_arg (pc := 432) E dW_432 dW_433 dW_435 dW_436 dW_437 rfl rfl (by omega) ?_
  refine zl_arg (pc := 438) E dW_438 dW_439 dW_441 dW_442 dW_443 rfl rfl (by omega) ?_
  refine zl_arg (pc := 444) E dW_444 dW_445 dW_447 dW_448 dW_449 rfl rfl (by omega) ?_
  refine y_ci (cells' := cells + 4) (slots' := slots + 24) (y_rV (pc := 450) (rest := []) hF (tX11_hole hn1 _ _ _ _ _ _ _ _ _ _ _ _ _ _ _ _ _ _ _ _ _ _ _ _ _ _ _ zM hW (zA xs i 1) (zA xs i 2) (zA xs i 3) (zA xs i 4) (zA_r xs i 1) (zA_r xs i 2) (zA_r xs i 3) (zA_r xs i 4)) dW_450 (by omega) rfl rfl rfl w_1456 qX11_hole rfl ⟨Nat.le_of_ble_eq_true rfl, Nat.le_of_ble_eq_true rfl⟩ ⟨by show cells + 4 ≤ 601024; omega, by show slots + 24 ≤ 7293033; omega⟩ (Nat.le_of_ble_eq_true rfl) rfl) rfl rfl (fun zb n2 σ2 z2 => ?_)
  refine y_istore (pc := 453) (lv' := zL6 g b i zk zb) hF dW_453 (by decide) rfl rfl ?_
  have hn2 := Nat.le_trans hn1 z2.1
  have hn3 := Nat.le_trans z1.1 z2.1
  have zt : ∃ A' : aA, zk = σ2 155 0 ∧ (0 ≤ zk ∧ zk ≤ 2) ∧ (zk = 0 → σ2 171 0 = wr zb) ∧ zG (N + 400) σ2 A' := by
    obtain ⟨_, zg, z1⟩ := z1
    obtain ⟨_, z2⟩ := z2
    rcases z1 with ⟨q, rfl, q2, q3⟩ | ⟨q, rfl, q3⟩ | ⟨q, q0, rfl, q3⟩
    · rcases z2 with ⟨p, p0, p1, p2⟩ | ⟨p, p2⟩ | ⟨p, p0, p2⟩
      · exact ⟨_, p2.2.1.symm, (by decide), (fun _ => by rw [p2.1 171 (Or.inr rfl), q2, p1]), cV_mF q3 p2.1, p2.2.2, (by split; exact aW_up hW (by omega); exact aW_up (aW_push hW) (by omega))⟩
      · exact absurd q.1 p
      · exact absurd q.2 p0
    · rcases z2 with ⟨p, p0, p1, p2⟩ | ⟨p, p2⟩ | ⟨p, p0, p2⟩
      · exact absurd p q
      · exact ⟨_, p2.2.1.symm, (by decide), (fun z => absurd z (by decide)), cV_mF q3 p2.1, p2.2.2, aW_up (aW_bN hW) (by omega)⟩
      · exact absurd p q
    · rcases z2 with ⟨p, p0, p1, p2⟩ | ⟨p, p2⟩ | ⟨p, p0, p2⟩
      · exact absurd p0 q0
      · exact absurd q p
      · exact ⟨_, p2.2.1.symm, (by decide), (fun z => absurd z (by decide)), cV_mF q3 p2.1, p2.2.2, aW_up (aW_bA hW) (by omega)⟩
  obtain ⟨A', t1, t2, t3, t4⟩ := zt
  exact zl_tail (pc := 455) E dW_455 dW_456 dW_459 dW_461 dW_466 dW_468 dW_471 dW_472 dW_473 dW_474 dW_476 dW_477 dW_478 dW_483 rfl t1 t2 t3 hn2 (by omega) (by omega) (y_wid (by omega) (by omega) (k n2 σ2 A' hn3 t4))
set_option maxHeartbeats 4000000 in
set_option maxRecDepth 100000 in
theorem zc_paint (E : zE x l g b L xs) {N : Int} {A : aA} (G : zG N σ A) (hN0 : 0 ≤ N) (hN : N ≤ 400000000) (hn : 172 ≤ n) {i : Int} (hi : 0 ≤ i ∧ i + 6 ≤ (L : Int)) (hc : cells + 408 ≤ 601024) (hs : slots + 3660 ≤ 7293033) (k : zK x g b Q n N cells slots i) : yV x g 7 Q (SC g) n σ cells slots 486 (zL g b i) [] := by
  obtain ⟨w, h, ⟨T, S, F, P, O, nf, df, nl, lg⟩, ⟨s, re, fo, ra, tu, we, sh⟩, H, ht, K, tl, tb, fa, r1, r2⟩ := A
  obtain ⟨hC, hM, hW⟩ := G
  have hF := E.1
  have ZN := hN0
  refine y_aload_n (pc := 486) hF dW_486 1 rfl ?_
  refine zl_arg (pc := 487) E dW_487 dW_488 dW_490 dW_491 dW_492 rfl rfl (by omega) ?_
  refine zl_arg (pc := 493) E dW_493 dW_494 dW_496 dW_497 dW_498 rfl rfl (by omega) ?_
  refine zl_arg (pc := 499) E dW_499 dW_500 dW_502 dW_503 dW_504 rfl rfl (by omega) ?_
  refine y_aload_n (pc := 505) hF dW_505 3 rfl ?_
  refine y_ci (cells' := cells + 4) (slots' := slots + 24) (y_rSL (pc := 506) (na := 5) hF E.2.1 E.2.2.1 (tL_paint E.2.2.2.1 hn _ _ _ _ _ _ _ _ _ _ _ _ _ _ _ _ _ _ _ _ _ _ _ _ _ _ _ hC hW (zA xs i 1) (zA xs i 2) (zA xs i 3) (zA_r xs i 1) (zA_r xs i 2) (zA_r xs i 3)) dW_506 w_799 w_800 wl_paint w_85 ⟨by decide, by decide, by decide +kernel⟩ rfl ⟨Nat.le_of_ble_eq_true rfl, Nat.le_of_ble_eq_true rfl⟩ ⟨by show cells + 4 ≤ 601024; omega, by show slots + 24 ≤ 7293033; omega⟩ (Nat.le_of_ble_eq_true rfl) rfl (rest := [])) rfl rfl (fun zk n1 σ1 z1 => ?_)
  refine y_istore (pc := 509) (lv' := zL5 g b i zk) hF dW_509 (by decide) rfl rfl ?_
  have hn1 := Nat.le_trans hn z1.1
  have zM := mV_cG hM z1.2.1
  refine y_aload_n (pc := 511) hF dW_511 2 rfl ?_
  refine zl_arg (pc := 512) E dW_512 dW_513 dW_515 dW_516 dW_517 rfl rfl (by omega) ?_
  refine zl_arg (pc := 518) E dW_518 dW_519 dW_521 dW_522 dW_523 rfl rfl (by omega) ?_
  refine zl_arg (pc := 524) E dW_524 dW_525 dW_527 dW_528 dW_529 rfl rfl (by omega) ?_
  refine y_ci (cells' := cells + 4) (slots' := slots + 24) (y_rV (pc := 530) (rest := []) hF (tX11_paint hn1 _ _ _ _ _ _ _ _ _ _ _ _ _ _ _ _ _ _ _ _ _ _ _ _ _ _ _ zM hW (zA xs i 1) (zA xs i 2) (zA xs i 3) (zA_r xs i 1) (zA_r xs i 2) (zA_r xs i 3)) dW_530 (by omega) rfl rfl rfl w_1464 qX11_paint rfl ⟨Nat.le_of_ble_eq_true rfl, Nat.le_of_ble_eq_true rfl⟩ ⟨by show cells + 4 ≤ 601024; omega, by show slots + 24 ≤ 7293033; omega⟩ (Nat.le_of_ble_eq_true rfl) rfl) rfl rfl (fun zb n2 σ2 z2 => ?_)
  refine y_istore (pc := 533) (lv' := zL6 g b i zk zb) hF dW_533 (by decide) rfl rfl ?_
  have hn2 := Nat.le_trans hn1 z2.1
  have hn3 := Nat.le_trans z1.1 z2.1
  have zt : ∃ A' : aA, zk = σ2 155 0 ∧ (0 ≤ zk ∧ zk ≤ 2) ∧ (zk = 0 → σ2 171 0 = wr zb) ∧ zG (N + 400) σ2 A' := by
    obtain ⟨_, zg, z1⟩ := z1
    obtain ⟨_, z2⟩ := z2
    rcases z1 with ⟨q, rfl, q2, q3⟩ | ⟨q, rfl, q3⟩ | ⟨q, q0, rfl, q3⟩
    · rcases z2 with ⟨p, p0, p1, p2⟩ | ⟨p, p2⟩ | ⟨p, p0, p2⟩
      · exact ⟨_, p2.2.1.symm, (by decide), (fun _ => by rw [p2.1 171 (Or.inr rfl), q2, p1]), cV_mF q3 p2.1, p2.2.2, aW_up (aW_push hW) (by omega)⟩
      · exact absurd q.1 p
      · exact absurd q.2 p0
    · rcases z2 with ⟨p, p0, p1, p2⟩ | ⟨p, p2⟩ | ⟨p, p0, p2⟩
      · exact absurd p q
      · exact ⟨_, p2.2.1.symm, (by decide), (fun z => absurd z (by decide)), cV_mF q3 p2.1, p2.2.2, aW_up (aW_bN hW) (by omega)⟩
      · exact absurd p q
    · rcases z2 with ⟨p, p0, p1, p2⟩ | ⟨p, p2⟩ | ⟨p, p0, p2⟩
      · exact absurd p0 q0
      · exact absurd q p
      · exact ⟨_, p2.2.1.symm, (by decide), (fun z => absurd z (by decide)), cV_mF q3 p2.1, p2.2.2, aW_up (aW_bA hW) (by omega)⟩
  obtain ⟨A', t1, t2, t3, t4⟩ := zt
  exact zl_tail (pc := 535) E dW_535 dW_536 dW_539 dW_541 dW_546 dW_548 dW_551 dW_552 dW_553 dW_554 dW_556 dW_557 dW_558 dW_563 rfl t1 t2 t3 hn2 (by omega) (by omega) (y_wid (by omega) (by omega) (k n2 σ2 A' hn3 t4))
set_option maxHeartbeats 4000000 in
set_option maxRecDepth 100000 in
theorem zc_keep (E : zE x l g b L xs) {N : Int} {A : aA} (G : zG N σ A) (hN0 : 0 ≤ N) (hN : N ≤ 400000000) (hn : 172 ≤ n) {i : Int} (hi : 0 ≤ i ∧ i + 6 ≤ (L : Int)) (hc : cells + 408 ≤ 601024) (hs : slots + 3660 ≤ 7293033) (k : zK x g b Q n N cells slots i) : yV x g 7 Q (SC g) n σ cells slots 566 (zL g b i) [] := by
  obtain ⟨w, h, ⟨T, S, F, P, O, nf, df, nl, lg⟩, ⟨s, re, fo, ra, tu, we, sh⟩, H, ht, K, tl, tb, fa, r1, r2⟩ := A
  obtain ⟨hC, hM, hW⟩ := G
  have hF := E.1
  have ZN := hN0
  refine y_aload_n (pc := 566) hF dW_566 1 rfl ?_
  refine y_ci (y_rV (pc := 567) (rest := []) hF (tX10_keep hn _ _ _ _ _ _ _ _ _ _ _ _ _ _ _ _ _ _ _ _ _ _ _ _ _ _ _ hC hW) dW_567 (by omega) rfl rfl rfl w_552 qX10_keep rfl ⟨Nat.le_of_ble_eq_true rfl, Nat.le_of_ble_eq_true rfl⟩ ⟨by show cells ≤ 601024; omega, by show slots ≤ 7293033; omega⟩ (Nat.le_of_ble_eq_true rfl) rfl) rfl rfl (fun zv n1 σ1 z1 => ?_)
  obtain ⟨z0, _, zv1, z3, z4⟩ := z1
  have hn1 := Nat.le_trans hn z0
  have zM := mV_cG hM (fun c hc _ => z4 c hc)
  refine y_aload_n (pc := 570) hF dW_570 2 rfl ?_
  refine y_ci (cells' := cells) (slots' := slots) (y_rV (pc := 571) (rest := [_]) hF (tX11_keep hn1 _ _ _ _ _ _ _ _ _ _ _ _ _ _ _ _ _ _ _ _ _ _ _ _ _ _ _ zM hW) dW_571 (by omega) rfl rfl rfl w_1476 qX11_keep rfl ⟨Nat.le_of_ble_eq_true rfl, Nat.le_of_ble_eq_true rfl⟩ ⟨by show cells ≤ 601024; omega, by show slots ≤ 7293033; omega⟩ (Nat.le_of_ble_eq_true rfl) rfl) rfl rfl (fun zb n2 σ2 z2 => ?_)
  obtain ⟨z5, zb1, z6⟩ := z2
  subst zb1
  subst zv1
  refine y_icmp_same (pc := 574) hF dW_574 2060 rfl ?_
  exact y_wid (by omega) (by omega) (k n2 σ2 _ (Nat.le_trans z0 z5) ⟨cV_mF z3 z6.1, z6.2.2, aW_up (aW_keep hW (kOk_cV (cV_ok hC).1)) (by omega)⟩)
set_option maxHeartbeats 4000000 in
set_option maxRecDepth 100000 in
theorem zc_fill (E : zE x l g b L xs) {N : Int} {A : aA} (G : zG N σ A) (hN0 : 0 ≤ N) (hN : N ≤ 400000000) (hn : 172 ≤ n) {i : Int} (hi : 0 ≤ i ∧ i + 6 ≤ (L : Int)) (hc : cells + 408 ≤ 601024) (hs : slots + 3660 ≤ 7293033) (k : zK x g b Q n N cells slots i) : yV x g 7 Q (SC g) n σ cells slots 579 (zL g b i) [] := by
  obtain ⟨w, h, ⟨T, S, F, P, O, nf, df, nl, lg⟩, ⟨s, re, fo, ra, tu, we, sh⟩, H, ht, K, tl, tb, fa, r1, r2⟩ := A
  obtain ⟨hC, hM, hW⟩ := G
  have hF := E.1
  have ZN := hN0
  refine y_aload_n (pc := 579) hF dW_579 1 rfl ?_
  refine zl_arg (pc := 580) E dW_580 dW_581 dW_583 dW_584 dW_585 rfl rfl (by omega) ?_
  refine y_aload_n (pc := 586) hF dW_586 3 rfl ?_
  refine y_ci (cells' := cells + 4) (slots' := slots + 24) (y_rSL (pc := 587) (na := 3) hF E.2.1 E.2.2.1 (tL_fill E.2.2.2.1 hn _ _ _ _ _ _ _ _ _ _ _ _ _ _ _ _ _ _ _ _ _ _ _ _ _ _ _ hC hW hN (zA xs i 1) (zA_r xs i 1)) dW_587 w_806 w_807 wl_fill w_85 ⟨by decide, by decide, by decide +kernel⟩ rfl ⟨Nat.le_of_ble_eq_true rfl, Nat.le_of_ble_eq_true rfl⟩ ⟨by show cells + 4 ≤ 601024; omega, by show slots + 24 ≤ 7293033; omega⟩ (Nat.le_of_ble_eq_true rfl) rfl (rest := [])) rfl rfl (fun zk n1 σ1 z1 => ?_)
  refine y_istore (pc := 590) (lv' := zL5 g b i zk) hF dW_590 (by decide) rfl rfl ?_
  have hn1 := Nat.le_trans hn z1.1
  have zM := mV_cG hM z1.2.1
  refine y_aload_n (pc := 592) hF dW_592 2 rfl ?_
  refine zl_arg (pc := 593) E dW_593 dW_594 dW_596 dW_597 dW_598 rfl rfl (by omega) ?_
  refine y_ci (cells' := cells + 4 + 101) (slots' := slots + 24 + 909) (y_rV (pc := 599) (rest := []) hF (tX11_fill hn1 _ _ _ _ _ _ _ _ _ _ _ _ _ _ _ _ _ _ _ _ _ _ _ _ _ _ _ zM hW (zA xs i 1) (zA_r xs i 1) hN) dW_599 (by omega) rfl rfl rfl w_1480 qX11_fill rfl ⟨Nat.le_of_ble_eq_true rfl, Nat.le_of_ble_eq_true rfl⟩ ⟨by show cells + 4 + 101 ≤ 601024; omega, by show slots + 24 + 909 ≤ 7293033; omega⟩ (Nat.le_of_ble_eq_true rfl) rfl) rfl rfl (fun zb n2 σ2 z2 => ?_)
  refine y_istore (pc := 602) (lv' := zL6 g b i zk zb) hF dW_602 (by decide) rfl rfl ?_
  have hn2 := Nat.le_trans hn1 z2.1
  have hn3 := Nat.le_trans z1.1 z2.1
  have zt : ∃ A' : aA, zk = σ2 155 0 ∧ (0 ≤ zk ∧ zk ≤ 2) ∧ (zk = 0 → σ2 171 0 = wr zb) ∧ zG (N + 400) σ2 A' := by
    obtain ⟨_, zg, z1⟩ := z1
    obtain ⟨_, z2⟩ := z2
    rcases z1 with ⟨q, rfl, q2, q3⟩ | ⟨q, rfl, q3⟩
    · rcases z2 with ⟨p, p1, p2⟩ | ⟨p, p2⟩
      · exact ⟨_, p2.2.1.symm, (by decide), (fun _ => by rw [p2.1 171 (Or.inr rfl), q2, p1]), cV_mF q3 p2.1, p2.2.2, aW_run ⟨by have := (cV_ok hC).2.2.1; omega, (cV_ok hC).2.2.1.2⟩ (cV_ok hC).2.2.2 (cV_ok hC).1 (cV_ok hC).2.1 hN (by omega) hW⟩
      · exact absurd q p
    · rcases z2 with ⟨p, p1, p2⟩ | ⟨p, p2⟩
      · exact absurd p q
      · exact ⟨_, p2.2.1.symm, (by decide), (fun z => absurd z (by decide)), cV_mF q3 p2.1, p2.2.2, aW_up (aW_bA hW) (by omega)⟩
  obtain ⟨A', t1, t2, t3, t4⟩ := zt
  exact zl_tail (pc := 604) E dW_604 dW_605 dW_608 dW_610 dW_615 dW_617 dW_620 dW_621 dW_622 dW_623 dW_625 dW_626 dW_627 dW_632 rfl t1 t2 t3 hn2 (by omega) (by omega) (y_wid (by omega) (by omega) (k n2 σ2 A' hn3 t4))
end YLA
