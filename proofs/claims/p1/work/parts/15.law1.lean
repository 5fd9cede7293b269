abbrev wX (cy : Nat → ClassId) (q : Nat → Nat) : va_W := [(q 0, .inr (11, fX q)), (q 1, .inl (cy 4, 8, .inr (.inr (.inr (.inr (shv q)))))), (q 2, .inl (cy 0, 5, .inl (fun _ => 0))), (q 3, .inr (9, fTape (fun k => q (3 + k)))), (q 4, .inl (cy 1, 120, .inl (fun _ => 0))), (q 5, .inr (1, fHall (fun k => q (5 + k)))), (q 6, .inr (10, fThings (fun k => q (6 + k)))), (q 7, .inl (cy 0, 30, .inl (fun _ => 0))), (q 8, .inl (cy 0, 30, .inl (fun _ => 0))), (q 9, .inl (cy 0, 30, .inl (fun _ => 0))), (q 10, .inl (cy 0, 30, .inl (fun _ => 0))), (q 11, .inl (cy 0, 30, .inl (fun _ => 0))), (q 12, .inl (cy 0, 30, .inl (fun _ => 0))), (q 13, .inl (cy 0, 30, .inl (fun _ => 0))), (q 14, .inr (2, fLadies (fun k => q (14 + k)))), (q 15, .inl (cy 0, 5, .inl (fun _ => 0))), (q 16, .inl (cy 0, 5, .inl (fun _ => 0))), (q 17, .inl (cy 0, 5, .inl (fun _ => 0))), (q 18, .inr (3, fLaws (fun k => q (18 + k)))), (q 19, .inl (cy 0, 30, .inl (fun _ => 0))), (q 20, .inl (cy 0, 5, .inl (fun _ => 0))), (q 21, .inr (0, fBuyers (fun k => q (21 + k)))), (q 22, .inl (cy 0, 12, .inl (fun _ => 0))), (q 23, .inl (cy 0, 12, .inl (fun _ => 0))), (q 24, .inl (cy 0, 12, .inl (fun _ => 0))), (q 25, .inl (cy 0, 12, .inl (fun _ => 0))), (q 26, .inl (cy 0, 12, .inl (fun _ => 0))), (q 27, .inr (8, fSightings (fun k => q (27 + k)))), (q 28, .inl (cy 0, 20, .inl (fun _ => 0))), (q 29, .inl (cy 0, 20, .inl (fun _ => 0))), (q 30, .inl (cy 0, 20, .inl (fun _ => 0))), (q 31, .inl (cy 0, 20, .inl (fun _ => 0))), (q 32, .inl (cy 0, 20, .inl (fun _ => 0))), (q 33, .inl (cy 0, 20, .inl (fun _ => 0))), (q 34, .inl (cy 0, 20, .inl (fun _ => 0))), (q 35, .inr (6, fSecrets (fun k => q (35 + k)))), (q 36, .inl (cy 0, 10, .inl (fun _ => 0))), (q 37, .inl (cy 0, 10, .inl (fun _ => 0))), (q 38, .inl (cy 0, 16, .inl (fun _ => 0))), (q 39, .inl (cy 0, 10, .inl (fun _ => 0))), (q 40, .inl (cy 0, 10, .inl (fun _ => 0))), (q 41, .inl (cy 0, 10, .inl (fun _ => 0))), (q 42, .inl (cy 0, 5, .inl (fun _ => 0))), (q 43, .inl (cy 0, 5, .inl (fun _ => 0))), (q 44, .inl (cy 0, 25, .inl (fun _ => 0))), (q 45, .inl (cy 0, 32, .inl (fun _ => 0))), (q 46, .inr (1, fHall (fun k => q (46 + k)))), (q 47, .inr (10, fThings (fun k => q (47 + k)))), (q 48, .inl (cy 0, 30, .inl (fun _ => 0))), (q 49, .inl (cy 0, 30, .inl (fun _ => 0))), (q 50, .inl (cy 0, 30, .inl (fun _ => 0))), (q 51, .inl (cy 0, 30, .inl (fun _ => 0))), (q 52, .inl (cy 0, 30, .inl (fun _ => 0))), (q 53, .inl (cy 0, 30, .inl (fun _ => 0))), (q 54, .inl (cy 0, 30, .inl (fun _ => 0))), (q 55, .inr (2, fLadies (fun k => q (55 + k)))), (q 56, .inl (cy 0, 5, .inl (fun _ => 0))), (q 57, .inl (cy 0, 5, .inl (fun _ => 0))), (q 58, .inl (cy 0, 5, .inl (fun _ => 0))), (q 59, .inr (3, fLaws (fun k => q (59 + k)))), (q 60, .inl (cy 0, 30, .inl (fun _ => 0))), (q 61, .inl (cy 0, 5, .inl (fun _ => 0))), (q 62, .inr (0, fBuyers (fun k => q (62 + k)))), (q 63, .inl (cy 0, 12, .inl (fun _ => 0))), (q 64, .inl (cy 0, 12, .inl (fun _ => 0))), (q 65, .inl (cy 0, 12, .inl (fun _ => 0))), (q 66, .inl (cy 0, 12, .inl (fun _ => 0))), (q 67, .inl (cy 0, 12, .inl (fun _ => 0))), (q 68, .inr (8, fSightings (fun k => q (68 + k)))), (q 69, .inl (cy 0, 20, .inl (fun _ => 0))), (q 70, .inl (cy 0, 20, .inl (fun _ => 0))), (q 71, .inl (cy 0, 20, .inl (fun _ => 0))), (q 72, .inl (cy 0, 20, .inl (fun _ => 0))), (q 73, .inl (cy 0, 20, .inl (fun _ => 0))), (q 74, .inl (cy 0, 20, .inl (fun _ => 0))), (q 75, .inl (cy 0, 20, .inl (fun _ => 0))), (q 76, .inr (6, fSecrets (fun k => q (76 + k)))), (q 77, .inl (cy 0, 10, .inl (fun _ => 0))), (q 78, .inl (cy 0, 10, .inl (fun _ => 0))), (q 79, .inl (cy 0, 16, .inl (fun _ => 0))), (q 80, .inl (cy 0, 10, .inl (fun _ => 0))), (q 81, .inl (cy 0, 10, .inl (fun _ => 0))), (q 82, .inl (cy 0, 10, .inl (fun _ => 0))), (q 83, .inl (cy 0, 5, .inl (fun _ => 0))), (q 84, .inl (cy 0, 5, .inl (fun _ => 0))), (q 85, .inl (cy 0, 25, .inl (fun _ => 0))), (q 86, .inl (cy 0, 32, .inl (fun _ => 0))), (q 87, .inr (5, fSale (fun k => q (87 + k)))), (q 88, .inl (cy 0, 30, .inl (fun _ => 0))), (q 89, .inl (cy 0, 30, .inl (fun _ => 0))), (q 90, .inl (cy 0, 30, .inl (fun _ => 0))), (q 91, .inl (cy 0, 30, .inl (fun _ => 0))), (q 92, .inl (cy 0, 12, .inl (fun _ => 0))), (q 93, .inl (cy 0, 12, .inl (fun _ => 0))), (q 94, .inr (4, fPicks (fun k => q (94 + k)))), (q 95, .inl (cy 0, 10000, .inl (fun _ => 0))), (q 96, .inl (cy 0, 201, .inl (fun _ => 0))), (q 97, .inr (7, fShelf (fun k => q (97 + k)))), (q 98, .inl (cy 2, 40, .inr (.inl (fun _ => 0)))), (q 99, .inr (7, fShelf (fun k => q (99 + k)))), (q 100, .inl (cy 2, 40, .inr (.inl (fun _ => 0)))), (q 101, .inr (7, fShelf (fun k => q (101 + k)))), (q 102, .inl (cy 2, 40, .inr (.inl (fun _ => 0)))), (q 103, .inr (7, fShelf (fun k => q (103 + k)))), (q 104, .inl (cy 2, 40, .inr (.inl (fun _ => 0)))), (q 105, .inr (7, fShelf (fun k => q (105 + k)))), (q 106, .inl (cy 2, 40, .inr (.inl (fun _ => 0)))), (q 107, .inr (7, fShelf (fun k => q (107 + k)))), (q 108, .inl (cy 2, 40, .inr (.inl (fun _ => 0)))), (q 109, .inr (7, fShelf (fun k => q (109 + k)))), (q 110, .inl (cy 2, 40, .inr (.inl (fun _ => 0)))), (q 111, .inr (7, fShelf (fun k => q (111 + k)))), (q 112, .inl (cy 2, 40, .inr (.inl (fun _ => 0))))]
abbrev wM (cy : Nat → ClassId) (q : Nat → Nat) : va_W := [(q 60, .inr (12, fM q)), (q 0, .inl (cy 0, 8, .inl (hold0))), (q 1, .inl (cy 0, 8, .inl (fun _ => 0))), (q 2, .inl (cy 2, 320, .inr (.inl (fun _ => 0)))), (q 4, .inl (cy 0, 30, .inl (fun _ => 0))), (q 5, .inl (cy 0, 30, .inl (fun _ => 0))), (q 6, .inl (cy 0, 30, .inl (fun _ => 0))), (q 7, .inl (cy 0, 30, .inl (fun _ => 0))), (q 8, .inl (cy 0, 30, .inl (fun _ => 0))), (q 9, .inl (cy 0, 30, .inl (fun _ => 0))), (q 11, .inl (cy 0, 5, .inl (fun _ => 0))), (q 12, .inl (cy 0, 5, .inl (fun _ => 0))), (q 13, .inl (cy 0, 5, .inl (fun _ => 0))), (q 15, .inl (cy 0, 30, .inl (fun _ => 0))), (q 17, .inl (cy 0, 120, .inl (fun _ => 0))), (q 19, .inl (cy 0, 12, .inl (fun _ => 0))), (q 20, .inl (cy 0, 12, .inl (fun _ => 0))), (q 21, .inl (cy 0, 12, .inl (fun _ => 0))), (q 22, .inl (cy 0, 12, .inl (fun _ => 0))), (q 23, .inl (cy 0, 12, .inl (fun _ => 0))), (q 25, .inl (cy 0, 5, .inl (fun _ => 0))), (q 27, .inl (cy 0, 20, .inl (fun _ => 0))), (q 28, .inl (cy 0, 20, .inl (fun _ => 0))), (q 29, .inl (cy 0, 20, .inl (fun _ => 0))), (q 30, .inl (cy 0, 20, .inl (fun _ => 0))), (q 32, .inl (cy 0, 10, .inl (fun _ => 0))), (q 33, .inl (cy 0, 10, .inl (fun _ => 0))), (q 34, .inl (cy 0, 16, .inl (fun _ => 0))), (q 35, .inl (cy 0, 4, .inl (hours0))), (q 36, .inl (cy 0, 7, .inl (fun _ => 0))), (q 38, .inl (cy 0, 460, .inl (fun _ => 0))), (q 39, .inl (cy 0, 7, .inl (fun _ => 0))), (q 40, .inl (cy 3, 30, .inl (fun _ => 0))), (q 41, .inl (cy 0, 12, .inl (fun _ => 0))), (q 42, .inl (cy 0, 6231, .inl (fun _ => 0))), (q 43, .inl (cy 0, 20, .inl (fun _ => 0))), (q 44, .inl (cy 0, 20, .inl (fun _ => 0))), (q 45, .inl (cy 0, 20, .inl (fun _ => 0))), (q 46, .inl (cy 0, 20, .inl (fun _ => 0))), (q 47, .inl (cy 0, 30, .inl (fun _ => 0))), (q 48, .inl (cy 0, 5, .inl (fun _ => 0))), (q 49, .inl (cy 0, 25, .inl (fun _ => 0)))]
theorem kk_22 : Cond.classLink "WhiteElephantsLaw" 7 "WhiteElephants" ∈ BW := bw_at 82 (by decide +kernel) rfl
theorem kk_23 : Cond.instantiable "WhiteElephants" 8 ∈ BW := bw_at 83 (by decide +kernel) rfl
theorem kk_24 : Cond.methodLink "WhiteElephantsLaw" 9 ⟨"WhiteElephants", "<init>", "()V"⟩ ∈ BW := bw_at 84 (by decide +kernel) rfl
theorem kk_25 : Cond.instanceMethod ⟨"WhiteElephants", "<init>", "()V"⟩ ∈ BW := bw_at 85 (by decide +kernel) rfl
theorem kk_407 : Cond.methodLink "WhiteElephantsLaw" 13 ⟨"WhiteElephants", "row", "(III)I"⟩ ∈ BW := bw_at 467 (by decide +kernel) rfl
theorem kk_408 : Cond.instanceMethod ⟨"WhiteElephants", "row", "(III)I"⟩ ∈ BW := bw_at 468 (by decide +kernel) rfl
theorem kk_409 : Cond.selects "WhiteElephants" ⟨"WhiteElephants", "row", "(III)I"⟩ ⟨"WhiteElephants", "row", "(III)I"⟩ ∈ BW := bw_at 469 (by decide +kernel) rfl
theorem kk_428 : Cond.methodLink "WhiteElephantsLaw" 20 ⟨"WhiteElephants", "set", "(IIJ)I"⟩ ∈ BW := bw_at 488 (by decide +kernel) rfl
theorem kk_429 : Cond.instanceMethod ⟨"WhiteElephants", "set", "(IIJ)I"⟩ ∈ BW := bw_at 489 (by decide +kernel) rfl
theorem kk_430 : Cond.selects "WhiteElephants" ⟨"WhiteElephants", "set", "(IIJ)I"⟩ ⟨"WhiteElephants", "set", "(IIJ)I"⟩ ∈ BW := bw_at 490 (by decide +kernel) rfl
theorem kk_457 : Cond.methodLink "WhiteElephantsLaw" 25 ⟨"WhiteElephants", "copy", "(IIIII)I"⟩ ∈ BW := bw_at 517 (by decide +kernel) rfl
theorem kk_458 : Cond.instanceMethod ⟨"WhiteElephants", "copy", "(IIIII)I"⟩ ∈ BW := bw_at 518 (by decide +kernel) rfl
theorem kk_459 : Cond.selects "WhiteElephants" ⟨"WhiteElephants", "copy", "(IIIII)I"⟩ ⟨"WhiteElephants", "copy", "(IIIII)I"⟩ ∈ BW := bw_at 519 (by decide +kernel) rfl
theorem kk_469 : Cond.methodLink "WhiteElephantsLaw" 30 ⟨"WhiteElephants", "element", "(II)J"⟩ ∈ BW := bw_at 529 (by decide +kernel) rfl
theorem kk_470 : Cond.instanceMethod ⟨"WhiteElephants", "element", "(II)J"⟩ ∈ BW := bw_at 530 (by decide +kernel) rfl
theorem kk_471 : Cond.selects "WhiteElephants" ⟨"WhiteElephants", "element", "(II)J"⟩ ⟨"WhiteElephants", "element", "(II)J"⟩ ∈ BW := bw_at 531 (by decide +kernel) rfl
theorem kk_477 : Cond.methodLink "WhiteElephantsLaw" 35 ⟨"WhiteElephants", "holds", "(I)I"⟩ ∈ BW := bw_at 537 (by decide +kernel) rfl
theorem kk_478 : Cond.instanceMethod ⟨"WhiteElephants", "holds", "(I)I"⟩ ∈ BW := bw_at 538 (by decide +kernel) rfl
theorem kk_479 : Cond.selects "WhiteElephants" ⟨"WhiteElephants", "holds", "(I)I"⟩ ⟨"WhiteElephants", "holds", "(I)I"⟩ ∈ BW := bw_at 539 (by decide +kernel) rfl
theorem kk_481 : Cond.methodLink "WhiteElephantsLaw" 40 ⟨"WhiteElephants", "show", "(II)I"⟩ ∈ BW := bw_at 541 (by decide +kernel) rfl
theorem kk_482 : Cond.instanceMethod ⟨"WhiteElephants", "show", "(II)I"⟩ ∈ BW := bw_at 542 (by decide +kernel) rfl
theorem kk_483 : Cond.selects "WhiteElephants" ⟨"WhiteElephants", "show", "(II)I"⟩ ⟨"WhiteElephants", "show", "(II)I"⟩ ∈ BW := bw_at 543 (by decide +kernel) rfl
theorem kk_490 : Cond.methodLink "WhiteElephantsLaw" 45 ⟨"WhiteElephants", "says", "(II)I"⟩ ∈ BW := bw_at 550 (by decide +kernel) rfl
theorem kk_491 : Cond.instanceMethod ⟨"WhiteElephants", "says", "(II)I"⟩ ∈ BW := bw_at 551 (by decide +kernel) rfl
theorem kk_492 : Cond.selects "WhiteElephants" ⟨"WhiteElephants", "says", "(II)I"⟩ ⟨"WhiteElephants", "says", "(II)I"⟩ ∈ BW := bw_at 552 (by decide +kernel) rfl
theorem kk_538 : Cond.methodLink "WhiteElephantsLaw" 49 ⟨"WhiteElephants", "thing", "(III)I"⟩ ∈ BW := bw_at 598 (by decide +kernel) rfl
theorem kk_539 : Cond.instanceMethod ⟨"WhiteElephants", "thing", "(III)I"⟩ ∈ BW := bw_at 599 (by decide +kernel) rfl
theorem kk_540 : Cond.selects "WhiteElephants" ⟨"WhiteElephants", "thing", "(III)I"⟩ ⟨"WhiteElephants", "thing", "(III)I"⟩ ∈ BW := bw_at 600 (by decide +kernel) rfl
theorem kk_546 : Cond.methodLink "WhiteElephantsLaw" 53 ⟨"WhiteElephants", "things", "(III)I"⟩ ∈ BW := bw_at 606 (by decide +kernel) rfl
theorem kk_547 : Cond.instanceMethod ⟨"WhiteElephants", "things", "(III)I"⟩ ∈ BW := bw_at 607 (by decide +kernel) rfl
theorem kk_548 : Cond.selects "WhiteElephants" ⟨"WhiteElephants", "things", "(III)I"⟩ ⟨"WhiteElephants", "things", "(III)I"⟩ ∈ BW := bw_at 608 (by decide +kernel) rfl
theorem kk_551 : Cond.methodLink "WhiteElephantsLaw" 57 ⟨"WhiteElephants", "thingOf", "(II)I"⟩ ∈ BW := bw_at 611 (by decide +kernel) rfl
theorem kk_552 : Cond.instanceMethod ⟨"WhiteElephants", "thingOf", "(II)I"⟩ ∈ BW := bw_at 612 (by decide +kernel) rfl
theorem kk_553 : Cond.selects "WhiteElephants" ⟨"WhiteElephants", "thingOf", "(II)I"⟩ ⟨"WhiteElephants", "thingOf", "(II)I"⟩ ∈ BW := bw_at 613 (by decide +kernel) rfl
theorem kk_556 : Cond.methodLink "WhiteElephantsLaw" 61 ⟨"WhiteElephants", "chip", "(II)I"⟩ ∈ BW := bw_at 616 (by decide +kernel) rfl
theorem kk_557 : Cond.instanceMethod ⟨"WhiteElephants", "chip", "(II)I"⟩ ∈ BW := bw_at 617 (by decide +kernel) rfl
theorem kk_558 : Cond.selects "WhiteElephants" ⟨"WhiteElephants", "chip", "(II)I"⟩ ⟨"WhiteElephants", "chip", "(II)I"⟩ ∈ BW := bw_at 618 (by decide +kernel) rfl
theorem kk_561 : Cond.methodLink "WhiteElephantsLaw" 65 ⟨"WhiteElephants", "lady", "(II)I"⟩ ∈ BW := bw_at 621 (by decide +kernel) rfl
theorem kk_562 : Cond.instanceMethod ⟨"WhiteElephants", "lady", "(II)I"⟩ ∈ BW := bw_at 622 (by decide +kernel) rfl
theorem kk_563 : Cond.selects "WhiteElephants" ⟨"WhiteElephants", "lady", "(II)I"⟩ ⟨"WhiteElephants", "lady", "(II)I"⟩ ∈ BW := bw_at 623 (by decide +kernel) rfl
theorem kk_572 : Cond.methodLink "WhiteElephantsLaw" 69 ⟨"WhiteElephants", "goes", "(II)I"⟩ ∈ BW := bw_at 632 (by decide +kernel) rfl
theorem kk_573 : Cond.instanceMethod ⟨"WhiteElephants", "goes", "(II)I"⟩ ∈ BW := bw_at 633 (by decide +kernel) rfl
theorem kk_574 : Cond.selects "WhiteElephants" ⟨"WhiteElephants", "goes", "(II)I"⟩ ⟨"WhiteElephants", "goes", "(II)I"⟩ ∈ BW := bw_at 634 (by decide +kernel) rfl
theorem kk_586 : Cond.methodLink "WhiteElephantsLaw" 73 ⟨"WhiteElephants", "feed", "(II)I"⟩ ∈ BW := bw_at 646 (by decide +kernel) rfl
theorem kk_587 : Cond.instanceMethod ⟨"WhiteElephants", "feed", "(II)I"⟩ ∈ BW := bw_at 647 (by decide +kernel) rfl
theorem kk_588 : Cond.selects "WhiteElephants" ⟨"WhiteElephants", "feed", "(II)I"⟩ ⟨"WhiteElephants", "feed", "(II)I"⟩ ∈ BW := bw_at 648 (by decide +kernel) rfl
theorem kk_594 : Cond.methodLink "WhiteElephantsLaw" 77 ⟨"WhiteElephants", "wipe", "()I"⟩ ∈ BW := bw_at 654 (by decide +kernel) rfl
theorem kk_595 : Cond.instanceMethod ⟨"WhiteElephants", "wipe", "()I"⟩ ∈ BW := bw_at 655 (by decide +kernel) rfl
theorem kk_596 : Cond.selects "WhiteElephants" ⟨"WhiteElephants", "wipe", "()I"⟩ ⟨"WhiteElephants", "wipe", "()I"⟩ ∈ BW := bw_at 656 (by decide +kernel) rfl
theorem kk_598 : Cond.methodLink "WhiteElephantsLaw" 82 ⟨"WhiteElephants", "law", "()I"⟩ ∈ BW := bw_at 658 (by decide +kernel) rfl
theorem kk_599 : Cond.instanceMethod ⟨"WhiteElephants", "law", "()I"⟩ ∈ BW := bw_at 659 (by decide +kernel) rfl
theorem kk_600 : Cond.selects "WhiteElephants" ⟨"WhiteElephants", "law", "()I"⟩ ⟨"WhiteElephants", "law", "()I"⟩ ∈ BW := bw_at 660 (by decide +kernel) rfl
theorem kk_699 : Cond.methodLink "WhiteElephantsLaw" 86 ⟨"WhiteElephants", "lawOf", "(II)I"⟩ ∈ BW := bw_at 759 (by decide +kernel) rfl
theorem kk_700 : Cond.instanceMethod ⟨"WhiteElephants", "lawOf", "(II)I"⟩ ∈ BW := bw_at 760 (by decide +kernel) rfl
theorem kk_701 : Cond.selects "WhiteElephants" ⟨"WhiteElephants", "lawOf", "(II)I"⟩ ⟨"WhiteElephants", "lawOf", "(II)I"⟩ ∈ BW := bw_at 761 (by decide +kernel) rfl
theorem kk_708 : Cond.methodLink "WhiteElephantsLaw" 90 ⟨"WhiteElephants", "thinks", "(IIZ)I"⟩ ∈ BW := bw_at 768 (by decide +kernel) rfl
theorem kk_709 : Cond.instanceMethod ⟨"WhiteElephants", "thinks", "(IIZ)I"⟩ ∈ BW := bw_at 769 (by decide +kernel) rfl
theorem kk_710 : Cond.selects "WhiteElephants" ⟨"WhiteElephants", "thinks", "(IIZ)I"⟩ ⟨"WhiteElephants", "thinks", "(IIZ)I"⟩ ∈ BW := bw_at 770 (by decide +kernel) rfl
theorem kk_729 : Cond.methodLink "WhiteElephantsLaw" 95 ⟨"WhiteElephants", "price", "(II)I"⟩ ∈ BW := bw_at 789 (by decide +kernel) rfl
theorem kk_730 : Cond.instanceMethod ⟨"WhiteElephants", "price", "(II)I"⟩ ∈ BW := bw_at 790 (by decide +kernel) rfl
theorem kk_731 : Cond.selects "WhiteElephants" ⟨"WhiteElephants", "price", "(II)I"⟩ ⟨"WhiteElephants", "price", "(II)I"⟩ ∈ BW := bw_at 791 (by decide +kernel) rfl
theorem kk_742 : Cond.methodLink "WhiteElephantsLaw" 99 ⟨"WhiteElephants", "mark", "(II)I"⟩ ∈ BW := bw_at 802 (by decide +kernel) rfl
theorem kk_743 : Cond.instanceMethod ⟨"WhiteElephants", "mark", "(II)I"⟩ ∈ BW := bw_at 803 (by decide +kernel) rfl
theorem kk_744 : Cond.selects "WhiteElephants" ⟨"WhiteElephants", "mark", "(II)I"⟩ ⟨"WhiteElephants", "mark", "(II)I"⟩ ∈ BW := bw_at 804 (by decide +kernel) rfl
theorem kk_750 : Cond.methodLink "WhiteElephantsLaw" 103 ⟨"WhiteElephants", "buyer", "(IIII)I"⟩ ∈ BW := bw_at 810 (by decide +kernel) rfl
theorem kk_751 : Cond.instanceMethod ⟨"WhiteElephants", "buyer", "(IIII)I"⟩ ∈ BW := bw_at 811 (by decide +kernel) rfl
theorem kk_752 : Cond.selects "WhiteElephants" ⟨"WhiteElephants", "buyer", "(IIII)I"⟩ ⟨"WhiteElephants", "buyer", "(IIII)I"⟩ ∈ BW := bw_at 812 (by decide +kernel) rfl
theorem kk_761 : Cond.methodLink "WhiteElephantsLaw" 108 ⟨"WhiteElephants", "buyerOf", "(II)I"⟩ ∈ BW := bw_at 821 (by decide +kernel) rfl
theorem kk_762 : Cond.instanceMethod ⟨"WhiteElephants", "buyerOf", "(II)I"⟩ ∈ BW := bw_at 822 (by decide +kernel) rfl
theorem kk_763 : Cond.selects "WhiteElephants" ⟨"WhiteElephants", "buyerOf", "(II)I"⟩ ⟨"WhiteElephants", "buyerOf", "(II)I"⟩ ∈ BW := bw_at 823 (by decide +kernel) rfl
theorem kk_770 : Cond.methodLink "WhiteElephantsLaw" 112 ⟨"WhiteElephants", "turn", "(II)I"⟩ ∈ BW := bw_at 830 (by decide +kernel) rfl
theorem kk_771 : Cond.instanceMethod ⟨"WhiteElephants", "turn", "(II)I"⟩ ∈ BW := bw_at 831 (by decide +kernel) rfl
theorem kk_772 : Cond.selects "WhiteElephants" ⟨"WhiteElephants", "turn", "(II)I"⟩ ⟨"WhiteElephants", "turn", "(II)I"⟩ ∈ BW := bw_at 832 (by decide +kernel) rfl
theorem kk_774 : Cond.methodLink "WhiteElephantsLaw" 116 ⟨"WhiteElephants", "costs", "(II)I"⟩ ∈ BW := bw_at 834 (by decide +kernel) rfl
theorem kk_775 : Cond.instanceMethod ⟨"WhiteElephants", "costs", "(II)I"⟩ ∈ BW := bw_at 835 (by decide +kernel) rfl
theorem kk_776 : Cond.selects "WhiteElephants" ⟨"WhiteElephants", "costs", "(II)I"⟩ ⟨"WhiteElephants", "costs", "(II)I"⟩ ∈ BW := bw_at 836 (by decide +kernel) rfl
theorem kk_784 : Cond.methodLink "WhiteElephantsLaw" 120 ⟨"WhiteElephants", "takes", "(II)I"⟩ ∈ BW := bw_at 844 (by decide +kernel) rfl
theorem kk_785 : Cond.instanceMethod ⟨"WhiteElephants", "takes", "(II)I"⟩ ∈ BW := bw_at 845 (by decide +kernel) rfl
theorem kk_786 : Cond.selects "WhiteElephants" ⟨"WhiteElephants", "takes", "(II)I"⟩ ⟨"WhiteElephants", "takes", "(II)I"⟩ ∈ BW := bw_at 846 (by decide +kernel) rfl
theorem kk_809 : Cond.methodLink "WhiteElephantsLaw" 124 ⟨"WhiteElephants", "takings", "(II)I"⟩ ∈ BW := bw_at 869 (by decide +kernel) rfl
theorem kk_810 : Cond.instanceMethod ⟨"WhiteElephants", "takings", "(II)I"⟩ ∈ BW := bw_at 870 (by decide +kernel) rfl
theorem kk_811 : Cond.selects "WhiteElephants" ⟨"WhiteElephants", "takings", "(II)I"⟩ ⟨"WhiteElephants", "takings", "(II)I"⟩ ∈ BW := bw_at 871 (by decide +kernel) rfl
theorem kk_827 : Cond.methodLink "WhiteElephantsLaw" 128 ⟨"WhiteElephants", "best", "()I"⟩ ∈ BW := bw_at 887 (by decide +kernel) rfl
theorem kk_828 : Cond.instanceMethod ⟨"WhiteElephants", "best", "()I"⟩ ∈ BW := bw_at 888 (by decide +kernel) rfl
theorem kk_829 : Cond.selects "WhiteElephants" ⟨"WhiteElephants", "best", "()I"⟩ ⟨"WhiteElephants", "best", "()I"⟩ ∈ BW := bw_at 889 (by decide +kernel) rfl
theorem kk_836 : Cond.methodLink "WhiteElephantsLaw" 132 ⟨"WhiteElephants", "judge", "(I)I"⟩ ∈ BW := bw_at 896 (by decide +kernel) rfl
theorem kk_837 : Cond.instanceMethod ⟨"WhiteElephants", "judge", "(I)I"⟩ ∈ BW := bw_at 897 (by decide +kernel) rfl
theorem kk_838 : Cond.selects "WhiteElephants" ⟨"WhiteElephants", "judge", "(I)I"⟩ ⟨"WhiteElephants", "judge", "(I)I"⟩ ∈ BW := bw_at 898 (by decide +kernel) rfl
theorem kk_841 : Cond.methodLink "WhiteElephantsLaw" 136 ⟨"WhiteElephants", "rest", "(I)I"⟩ ∈ BW := bw_at 901 (by decide +kernel) rfl
theorem kk_842 : Cond.instanceMethod ⟨"WhiteElephants", "rest", "(I)I"⟩ ∈ BW := bw_at 902 (by decide +kernel) rfl
theorem kk_843 : Cond.selects "WhiteElephants" ⟨"WhiteElephants", "rest", "(I)I"⟩ ⟨"WhiteElephants", "rest", "(I)I"⟩ ∈ BW := bw_at 903 (by decide +kernel) rfl
theorem kk_850 : Cond.methodLink "WhiteElephantsLaw" 140 ⟨"WhiteElephants", "loses", "(II)I"⟩ ∈ BW := bw_at 910 (by decide +kernel) rfl
theorem kk_851 : Cond.instanceMethod ⟨"WhiteElephants", "loses", "(II)I"⟩ ∈ BW := bw_at 911 (by decide +kernel) rfl
theorem kk_852 : Cond.selects "WhiteElephants" ⟨"WhiteElephants", "loses", "(II)I"⟩ ⟨"WhiteElephants", "loses", "(II)I"⟩ ∈ BW := bw_at 912 (by decide +kernel) rfl
theorem kk_859 : Cond.methodLink "WhiteElephantsLaw" 144 ⟨"WhiteElephants", "go", "(I)I"⟩ ∈ BW := bw_at 919 (by decide +kernel) rfl
theorem kk_860 : Cond.instanceMethod ⟨"WhiteElephants", "go", "(I)I"⟩ ∈ BW := bw_at 920 (by decide +kernel) rfl
theorem kk_861 : Cond.selects "WhiteElephants" ⟨"WhiteElephants", "go", "(I)I"⟩ ⟨"WhiteElephants", "go", "(I)I"⟩ ∈ BW := bw_at 921 (by decide +kernel) rfl
theorem kk_869 : Cond.methodLink "WhiteElephantsLaw" 148 ⟨"WhiteElephants", "day", "(I)I"⟩ ∈ BW := bw_at 929 (by decide +kernel) rfl
theorem kk_870 : Cond.instanceMethod ⟨"WhiteElephants", "day", "(I)I"⟩ ∈ BW := bw_at 930 (by decide +kernel) rfl
theorem kk_871 : Cond.selects "WhiteElephants" ⟨"WhiteElephants", "day", "(I)I"⟩ ⟨"WhiteElephants", "day", "(I)I"⟩ ∈ BW := bw_at 931 (by decide +kernel) rfl
theorem kk_877 : Cond.methodLink "WhiteElephantsLaw" 152 ⟨"WhiteElephants", "morning", "()I"⟩ ∈ BW := bw_at 937 (by decide +kernel) rfl
theorem kk_878 : Cond.instanceMethod ⟨"WhiteElephants", "morning", "()I"⟩ ∈ BW := bw_at 938 (by decide +kernel) rfl
theorem kk_879 : Cond.selects "WhiteElephants" ⟨"WhiteElephants", "morning", "()I"⟩ ⟨"WhiteElephants", "morning", "()I"⟩ ∈ BW := bw_at 939 (by decide +kernel) rfl
theorem kk_881 : Cond.methodLink "WhiteElephantsLaw" 156 ⟨"WhiteElephants", "shown", "(I)I"⟩ ∈ BW := bw_at 941 (by decide +kernel) rfl
theorem kk_882 : Cond.instanceMethod ⟨"WhiteElephants", "shown", "(I)I"⟩ ∈ BW := bw_at 942 (by decide +kernel) rfl
theorem kk_883 : Cond.selects "WhiteElephants" ⟨"WhiteElephants", "shown", "(I)I"⟩ ⟨"WhiteElephants", "shown", "(I)I"⟩ ∈ BW := bw_at 943 (by decide +kernel) rfl
theorem kk_895 : Cond.methodLink "WhiteElephantsLaw" 160 ⟨"WhiteElephants", "table", "(I)I"⟩ ∈ BW := bw_at 955 (by decide +kernel) rfl
theorem kk_896 : Cond.instanceMethod ⟨"WhiteElephants", "table", "(I)I"⟩ ∈ BW := bw_at 956 (by decide +kernel) rfl
theorem kk_897 : Cond.selects "WhiteElephants" ⟨"WhiteElephants", "table", "(I)I"⟩ ⟨"WhiteElephants", "table", "(I)I"⟩ ∈ BW := bw_at 957 (by decide +kernel) rfl
theorem kk_899 : Cond.methodLink "WhiteElephantsLaw" 164 ⟨"WhiteElephants", "who", "(I)I"⟩ ∈ BW := bw_at 959 (by decide +kernel) rfl
theorem kk_900 : Cond.instanceMethod ⟨"WhiteElephants", "who", "(I)I"⟩ ∈ BW := bw_at 960 (by decide +kernel) rfl
theorem kk_901 : Cond.selects "WhiteElephants" ⟨"WhiteElephants", "who", "(I)I"⟩ ⟨"WhiteElephants", "who", "(I)I"⟩ ∈ BW := bw_at 961 (by decide +kernel) rfl
theorem kk_921 : Cond.methodLink "WhiteElephantsLaw" 168 ⟨"WhiteElephants", "sight", "(IIII)I"⟩ ∈ BW := bw_at 981 (by decide +kernel) rfl
theorem kk_922 : Cond.instanceMethod ⟨"WhiteElephants", "sight", "(IIII)I"⟩ ∈ BW := bw_at 982 (by decide +kernel) rfl
theorem kk_923 : Cond.selects "WhiteElephants" ⟨"WhiteElephants", "sight", "(IIII)I"⟩ ⟨"WhiteElephants", "sight", "(IIII)I"⟩ ∈ BW := bw_at 983 (by decide +kernel) rfl
theorem kk_935 : Cond.methodLink "WhiteElephantsLaw" 172 ⟨"WhiteElephants", "same", "(II)I"⟩ ∈ BW := bw_at 995 (by decide +kernel) rfl
theorem kk_936 : Cond.instanceMethod ⟨"WhiteElephants", "same", "(II)I"⟩ ∈ BW := bw_at 996 (by decide +kernel) rfl
theorem kk_937 : Cond.selects "WhiteElephants" ⟨"WhiteElephants", "same", "(II)I"⟩ ⟨"WhiteElephants", "same", "(II)I"⟩ ∈ BW := bw_at 997 (by decide +kernel) rfl
theorem kk_948 : Cond.methodLink "WhiteElephantsLaw" 176 ⟨"WhiteElephants", "vases", "()I"⟩ ∈ BW := bw_at 1008 (by decide +kernel) rfl
theorem kk_949 : Cond.instanceMethod ⟨"WhiteElephants", "vases", "()I"⟩ ∈ BW := bw_at 1009 (by decide +kernel) rfl
theorem kk_950 : Cond.selects "WhiteElephants" ⟨"WhiteElephants", "vases", "()I"⟩ ⟨"WhiteElephants", "vases", "()I"⟩ ∈ BW := bw_at 1010 (by decide +kernel) rfl
theorem kk_963 : Cond.methodLink "WhiteElephantsLaw" 180 ⟨"WhiteElephants", "longest", "()I"⟩ ∈ BW := bw_at 1023 (by decide +kernel) rfl
theorem kk_964 : Cond.instanceMethod ⟨"WhiteElephants", "longest", "()I"⟩ ∈ BW := bw_at 1024 (by decide +kernel) rfl
theorem kk_965 : Cond.selects "WhiteElephants" ⟨"WhiteElephants", "longest", "()I"⟩ ⟨"WhiteElephants", "longest", "()I"⟩ ∈ BW := bw_at 1025 (by decide +kernel) rfl
theorem kk_976 : Cond.methodLink "WhiteElephantsLaw" 184 ⟨"WhiteElephants", "secret", "(II)I"⟩ ∈ BW := bw_at 1036 (by decide +kernel) rfl
theorem kk_977 : Cond.instanceMethod ⟨"WhiteElephants", "secret", "(II)I"⟩ ∈ BW := bw_at 1037 (by decide +kernel) rfl
theorem kk_978 : Cond.selects "WhiteElephants" ⟨"WhiteElephants", "secret", "(II)I"⟩ ⟨"WhiteElephants", "secret", "(II)I"⟩ ∈ BW := bw_at 1038 (by decide +kernel) rfl
theorem kk_984 : Cond.methodLink "WhiteElephantsLaw" 188 ⟨"WhiteElephants", "looks", "(II)I"⟩ ∈ BW := bw_at 1044 (by decide +kernel) rfl
theorem kk_985 : Cond.instanceMethod ⟨"WhiteElephants", "looks", "(II)I"⟩ ∈ BW := bw_at 1045 (by decide +kernel) rfl
theorem kk_986 : Cond.selects "WhiteElephants" ⟨"WhiteElephants", "looks", "(II)I"⟩ ⟨"WhiteElephants", "looks", "(II)I"⟩ ∈ BW := bw_at 1046 (by decide +kernel) rfl
theorem kk_988 : Cond.methodLink "WhiteElephantsLaw" 192 ⟨"WhiteElephants", "laid", "(II)I"⟩ ∈ BW := bw_at 1048 (by decide +kernel) rfl
theorem kk_989 : Cond.instanceMethod ⟨"WhiteElephants", "laid", "(II)I"⟩ ∈ BW := bw_at 1049 (by decide +kernel) rfl
theorem kk_990 : Cond.selects "WhiteElephants" ⟨"WhiteElephants", "laid", "(II)I"⟩ ⟨"WhiteElephants", "laid", "(II)I"⟩ ∈ BW := bw_at 1050 (by decide +kernel) rfl
theorem kk_1014 : Cond.methodLink "WhiteElephantsLaw" 196 ⟨"WhiteElephants", "shortBy", "(I)I"⟩ ∈ BW := bw_at 1074 (by decide +kernel) rfl
theorem kk_1015 : Cond.instanceMethod ⟨"WhiteElephants", "shortBy", "(I)I"⟩ ∈ BW := bw_at 1075 (by decide +kernel) rfl
theorem kk_1016 : Cond.selects "WhiteElephants" ⟨"WhiteElephants", "shortBy", "(I)I"⟩ ⟨"WhiteElephants", "shortBy", "(I)I"⟩ ∈ BW := bw_at 1076 (by decide +kernel) rfl
theorem kk_1029 : Cond.methodLink "WhiteElephantsLaw" 200 ⟨"WhiteElephants", "hall", "(II)I"⟩ ∈ BW := bw_at 1089 (by decide +kernel) rfl
theorem kk_1030 : Cond.instanceMethod ⟨"WhiteElephants", "hall", "(II)I"⟩ ∈ BW := bw_at 1090 (by decide +kernel) rfl
theorem kk_1031 : Cond.selects "WhiteElephants" ⟨"WhiteElephants", "hall", "(II)I"⟩ ⟨"WhiteElephants", "hall", "(II)I"⟩ ∈ BW := bw_at 1091 (by decide +kernel) rfl
theorem kk_1045 : Cond.methodLink "WhiteElephantsLaw" 204 ⟨"WhiteElephants", "image", "()I"⟩ ∈ BW := bw_at 1105 (by decide +kernel) rfl
theorem kk_1046 : Cond.instanceMethod ⟨"WhiteElephants", "image", "()I"⟩ ∈ BW := bw_at 1106 (by decide +kernel) rfl
theorem kk_1047 : Cond.selects "WhiteElephants" ⟨"WhiteElephants", "image", "()I"⟩ ⟨"WhiteElephants", "image", "()I"⟩ ∈ BW := bw_at 1107 (by decide +kernel) rfl
theorem kk_1083 : Cond.methodLink "WhiteElephantsLaw" 208 ⟨"WhiteElephants", "back", "()I"⟩ ∈ BW := bw_at 1143 (by decide +kernel) rfl
theorem kk_1084 : Cond.instanceMethod ⟨"WhiteElephants", "back", "()I"⟩ ∈ BW := bw_at 1144 (by decide +kernel) rfl
theorem kk_1085 : Cond.selects "WhiteElephants" ⟨"WhiteElephants", "back", "()I"⟩ ⟨"WhiteElephants", "back", "()I"⟩ ∈ BW := bw_at 1145 (by decide +kernel) rfl
theorem kk_1087 : Cond.methodLink "WhiteElephantsLaw" 212 ⟨"WhiteElephants", "status", "(I)I"⟩ ∈ BW := bw_at 1147 (by decide +kernel) rfl
theorem kk_1088 : Cond.instanceMethod ⟨"WhiteElephants", "status", "(I)I"⟩ ∈ BW := bw_at 1148 (by decide +kernel) rfl
theorem kk_1089 : Cond.selects "WhiteElephants" ⟨"WhiteElephants", "status", "(I)I"⟩ ⟨"WhiteElephants", "status", "(I)I"⟩ ∈ BW := bw_at 1149 (by decide +kernel) rfl
theorem kk_1095 : Cond.classLink "WhiteElephantsLaw" 10 "WhiteElephantsModel" ∈ BW := bw_at 1155 (by decide +kernel) rfl
theorem kk_1096 : Cond.instantiable "WhiteElephantsModel" 51 ∈ BW := bw_at 1156 (by decide +kernel) rfl
theorem kk_1097 : Cond.methodLink "WhiteElephantsLaw" 12 ⟨"WhiteElephantsModel", "<init>", "()V"⟩ ∈ BW := bw_at 1157 (by decide +kernel) rfl
theorem kk_1098 : Cond.instanceMethod ⟨"WhiteElephantsModel", "<init>", "()V"⟩ ∈ BW := bw_at 1158 (by decide +kernel) rfl
theorem kk_1256 : Cond.methodLink "WhiteElephantsLaw" 17 ⟨"WhiteElephantsModel", "row", "(III)I"⟩ ∈ BW := bw_at 1316 (by decide +kernel) rfl
theorem kk_1257 : Cond.instanceMethod ⟨"WhiteElephantsModel", "row", "(III)I"⟩ ∈ BW := bw_at 1317 (by decide +kernel) rfl
theorem kk_1258 : Cond.selects "WhiteElephantsModel" ⟨"WhiteElephantsModel", "row", "(III)I"⟩ ⟨"WhiteElephantsModel", "row", "(III)I"⟩ ∈ BW := bw_at 1318 (by decide +kernel) rfl
theorem kk_1268 : Cond.methodLink "WhiteElephantsLaw" 24 ⟨"WhiteElephantsModel", "set", "(IIJ)I"⟩ ∈ BW := bw_at 1328 (by decide +kernel) rfl
theorem kk_1269 : Cond.instanceMethod ⟨"WhiteElephantsModel", "set", "(IIJ)I"⟩ ∈ BW := bw_at 1329 (by decide +kernel) rfl
theorem kk_1270 : Cond.selects "WhiteElephantsModel" ⟨"WhiteElephantsModel", "set", "(IIJ)I"⟩ ⟨"WhiteElephantsModel", "set", "(IIJ)I"⟩ ∈ BW := bw_at 1330 (by decide +kernel) rfl
theorem kk_1280 : Cond.methodLink "WhiteElephantsLaw" 29 ⟨"WhiteElephantsModel", "copy", "(IIIII)I"⟩ ∈ BW := bw_at 1340 (by decide +kernel) rfl
theorem kk_1281 : Cond.instanceMethod ⟨"WhiteElephantsModel", "copy", "(IIIII)I"⟩ ∈ BW := bw_at 1341 (by decide +kernel) rfl
theorem kk_1282 : Cond.selects "WhiteElephantsModel" ⟨"WhiteElephantsModel", "copy", "(IIIII)I"⟩ ⟨"WhiteElephantsModel", "copy", "(IIIII)I"⟩ ∈ BW := bw_at 1342 (by decide +kernel) rfl
theorem kk_1288 : Cond.methodLink "WhiteElephantsLaw" 34 ⟨"WhiteElephantsModel", "element", "(II)J"⟩ ∈ BW := bw_at 1348 (by decide +kernel) rfl
theorem kk_1289 : Cond.instanceMethod ⟨"WhiteElephantsModel", "element", "(II)J"⟩ ∈ BW := bw_at 1349 (by decide +kernel) rfl
theorem kk_1290 : Cond.selects "WhiteElephantsModel" ⟨"WhiteElephantsModel", "element", "(II)J"⟩ ⟨"WhiteElephantsModel", "element", "(II)J"⟩ ∈ BW := bw_at 1350 (by decide +kernel) rfl
theorem kk_1292 : Cond.methodLink "WhiteElephantsLaw" 39 ⟨"WhiteElephantsModel", "holds", "(I)I"⟩ ∈ BW := bw_at 1352 (by decide +kernel) rfl
theorem kk_1293 : Cond.instanceMethod ⟨"WhiteElephantsModel", "holds", "(I)I"⟩ ∈ BW := bw_at 1353 (by decide +kernel) rfl
theorem kk_1294 : Cond.selects "WhiteElephantsModel" ⟨"WhiteElephantsModel", "holds", "(I)I"⟩ ⟨"WhiteElephantsModel", "holds", "(I)I"⟩ ∈ BW := bw_at 1354 (by decide +kernel) rfl
theorem kk_1296 : Cond.methodLink "WhiteElephantsLaw" 44 ⟨"WhiteElephantsModel", "show", "(II)I"⟩ ∈ BW := bw_at 1356 (by decide +kernel) rfl
theorem kk_1297 : Cond.instanceMethod ⟨"WhiteElephantsModel", "show", "(II)I"⟩ ∈ BW := bw_at 1357 (by decide +kernel) rfl
theorem kk_1298 : Cond.selects "WhiteElephantsModel" ⟨"WhiteElephantsModel", "show", "(II)I"⟩ ⟨"WhiteElephantsModel", "show", "(II)I"⟩ ∈ BW := bw_at 1358 (by decide +kernel) rfl
theorem kk_1304 : Cond.methodLink "WhiteElephantsLaw" 48 ⟨"WhiteElephantsModel", "says", "(II)I"⟩ ∈ BW := bw_at 1364 (by decide +kernel) rfl
theorem kk_1305 : Cond.instanceMethod ⟨"WhiteElephantsModel", "says", "(II)I"⟩ ∈ BW := bw_at 1365 (by decide +kernel) rfl
theorem kk_1306 : Cond.selects "WhiteElephantsModel" ⟨"WhiteElephantsModel", "says", "(II)I"⟩ ⟨"WhiteElephantsModel", "says", "(II)I"⟩ ∈ BW := bw_at 1366 (by decide +kernel) rfl
theorem kk_1328 : Cond.methodLink "WhiteElephantsLaw" 52 ⟨"WhiteElephantsModel", "thing", "(III)I"⟩ ∈ BW := bw_at 1388 (by decide +kernel) rfl
theorem kk_1329 : Cond.instanceMethod ⟨"WhiteElephantsModel", "thing", "(III)I"⟩ ∈ BW := bw_at 1389 (by decide +kernel) rfl
theorem kk_1330 : Cond.selects "WhiteElephantsModel" ⟨"WhiteElephantsModel", "thing", "(III)I"⟩ ⟨"WhiteElephantsModel", "thing", "(III)I"⟩ ∈ BW := bw_at 1390 (by decide +kernel) rfl
theorem kk_1332 : Cond.methodLink "WhiteElephantsLaw" 56 ⟨"WhiteElephantsModel", "things", "(III)I"⟩ ∈ BW := bw_at 1392 (by decide +kernel) rfl
theorem kk_1333 : Cond.instanceMethod ⟨"WhiteElephantsModel", "things", "(III)I"⟩ ∈ BW := bw_at 1393 (by decide +kernel) rfl
theorem kk_1334 : Cond.selects "WhiteElephantsModel" ⟨"WhiteElephantsModel", "things", "(III)I"⟩ ⟨"WhiteElephantsModel", "things", "(III)I"⟩ ∈ BW := bw_at 1394 (by decide +kernel) rfl
theorem kk_1338 : Cond.methodLink "WhiteElephantsLaw" 60 ⟨"WhiteElephantsModel", "thingOf", "(II)I"⟩ ∈ BW := bw_at 1398 (by decide +kernel) rfl
theorem kk_1339 : Cond.instanceMethod ⟨"WhiteElephantsModel", "thingOf", "(II)I"⟩ ∈ BW := bw_at 1399 (by decide +kernel) rfl
theorem kk_1340 : Cond.selects "WhiteElephantsModel" ⟨"WhiteElephantsModel", "thingOf", "(II)I"⟩ ⟨"WhiteElephantsModel", "thingOf", "(II)I"⟩ ∈ BW := bw_at 1400 (by decide +kernel) rfl
theorem kk_1342 : Cond.methodLink "WhiteElephantsLaw" 64 ⟨"WhiteElephantsModel", "chip", "(II)I"⟩ ∈ BW := bw_at 1402 (by decide +kernel) rfl
theorem kk_1343 : Cond.instanceMethod ⟨"WhiteElephantsModel", "chip", "(II)I"⟩ ∈ BW := bw_at 1403 (by decide +kernel) rfl
theorem kk_1344 : Cond.selects "WhiteElephantsModel" ⟨"WhiteElephantsModel", "chip", "(II)I"⟩ ⟨"WhiteElephantsModel", "chip", "(II)I"⟩ ∈ BW := bw_at 1404 (by decide +kernel) rfl
theorem kk_1346 : Cond.methodLink "WhiteElephantsLaw" 68 ⟨"WhiteElephantsModel", "lady", "(II)I"⟩ ∈ BW := bw_at 1406 (by decide +kernel) rfl
theorem kk_1347 : Cond.instanceMethod ⟨"WhiteElephantsModel", "lady", "(II)I"⟩ ∈ BW := bw_at 1407 (by decide +kernel) rfl
theorem kk_1348 : Cond.selects "WhiteElephantsModel" ⟨"WhiteElephantsModel", "lady", "(II)I"⟩ ⟨"WhiteElephantsModel", "lady", "(II)I"⟩ ∈ BW := bw_at 1408 (by decide +kernel) rfl
theorem kk_1354 : Cond.methodLink "WhiteElephantsLaw" 72 ⟨"WhiteElephantsModel", "goes", "(II)I"⟩ ∈ BW := bw_at 1414 (by decide +kernel) rfl
theorem kk_1355 : Cond.instanceMethod ⟨"WhiteElephantsModel", "goes", "(II)I"⟩ ∈ BW := bw_at 1415 (by decide +kernel) rfl
theorem kk_1356 : Cond.selects "WhiteElephantsModel" ⟨"WhiteElephantsModel", "goes", "(II)I"⟩ ⟨"WhiteElephantsModel", "goes", "(II)I"⟩ ∈ BW := bw_at 1416 (by decide +kernel) rfl
theorem kk_1366 : Cond.methodLink "WhiteElephantsLaw" 76 ⟨"WhiteElephantsModel", "feed", "(II)I"⟩ ∈ BW := bw_at 1426 (by decide +kernel) rfl
theorem kk_1367 : Cond.instanceMethod ⟨"WhiteElephantsModel", "feed", "(II)I"⟩ ∈ BW := bw_at 1427 (by decide +kernel) rfl
theorem kk_1368 : Cond.selects "WhiteElephantsModel" ⟨"WhiteElephantsModel", "feed", "(II)I"⟩ ⟨"WhiteElephantsModel", "feed", "(II)I"⟩ ∈ BW := bw_at 1428 (by decide +kernel) rfl
theorem kk_1370 : Cond.methodLink "WhiteElephantsLaw" 81 ⟨"WhiteElephantsModel", "wipe", "()I"⟩ ∈ BW := bw_at 1430 (by decide +kernel) rfl
theorem kk_1371 : Cond.instanceMethod ⟨"WhiteElephantsModel", "wipe", "()I"⟩ ∈ BW := bw_at 1431 (by decide +kernel) rfl
theorem kk_1372 : Cond.selects "WhiteElephantsModel" ⟨"WhiteElephantsModel", "wipe", "()I"⟩ ⟨"WhiteElephantsModel", "wipe", "()I"⟩ ∈ BW := bw_at 1432 (by decide +kernel) rfl
theorem kk_1374 : Cond.methodLink "WhiteElephantsLaw" 85 ⟨"WhiteElephantsModel", "law", "()I"⟩ ∈ BW := bw_at 1434 (by decide +kernel) rfl
theorem kk_1375 : Cond.instanceMethod ⟨"WhiteElephantsModel", "law", "()I"⟩ ∈ BW := bw_at 1435 (by decide +kernel) rfl
theorem kk_1376 : Cond.selects "WhiteElephantsModel" ⟨"WhiteElephantsModel", "law", "()I"⟩ ⟨"WhiteElephantsModel", "law", "()I"⟩ ∈ BW := bw_at 1436 (by decide +kernel) rfl
theorem kk_1409 : Cond.methodLink "WhiteElephantsLaw" 89 ⟨"WhiteElephantsModel", "lawOf", "(II)I"⟩ ∈ BW := bw_at 1469 (by decide +kernel) rfl
theorem kk_1410 : Cond.instanceMethod ⟨"WhiteElephantsModel", "lawOf", "(II)I"⟩ ∈ BW := bw_at 1470 (by decide +kernel) rfl
theorem kk_1411 : Cond.selects "WhiteElephantsModel" ⟨"WhiteElephantsModel", "lawOf", "(II)I"⟩ ⟨"WhiteElephantsModel", "lawOf", "(II)I"⟩ ∈ BW := bw_at 1471 (by decide +kernel) rfl
theorem kk_1413 : Cond.methodLink "WhiteElephantsLaw" 94 ⟨"WhiteElephantsModel", "thinks", "(IIZ)I"⟩ ∈ BW := bw_at 1473 (by decide +kernel) rfl
theorem kk_1414 : Cond.instanceMethod ⟨"WhiteElephantsModel", "thinks", "(IIZ)I"⟩ ∈ BW := bw_at 1474 (by decide +kernel) rfl
theorem kk_1415 : Cond.selects "WhiteElephantsModel" ⟨"WhiteElephantsModel", "thinks", "(IIZ)I"⟩ ⟨"WhiteElephantsModel", "thinks", "(IIZ)I"⟩ ∈ BW := bw_at 1475 (by decide +kernel) rfl
theorem kk_1425 : Cond.methodLink "WhiteElephantsLaw" 98 ⟨"WhiteElephantsModel", "price", "(II)I"⟩ ∈ BW := bw_at 1485 (by decide +kernel) rfl
theorem kk_1426 : Cond.instanceMethod ⟨"WhiteElephantsModel", "price", "(II)I"⟩ ∈ BW := bw_at 1486 (by decide +kernel) rfl
theorem kk_1427 : Cond.selects "WhiteElephantsModel" ⟨"WhiteElephantsModel", "price", "(II)I"⟩ ⟨"WhiteElephantsModel", "price", "(II)I"⟩ ∈ BW := bw_at 1487 (by decide +kernel) rfl
theorem kk_1429 : Cond.methodLink "WhiteElephantsLaw" 102 ⟨"WhiteElephantsModel", "mark", "(II)I"⟩ ∈ BW := bw_at 1489 (by decide +kernel) rfl
theorem kk_1430 : Cond.instanceMethod ⟨"WhiteElephantsModel", "mark", "(II)I"⟩ ∈ BW := bw_at 1490 (by decide +kernel) rfl
theorem kk_1431 : Cond.selects "WhiteElephantsModel" ⟨"WhiteElephantsModel", "mark", "(II)I"⟩ ⟨"WhiteElephantsModel", "mark", "(II)I"⟩ ∈ BW := bw_at 1491 (by decide +kernel) rfl
theorem kk_1433 : Cond.methodLink "WhiteElephantsLaw" 107 ⟨"WhiteElephantsModel", "buyer", "(IIII)I"⟩ ∈ BW := bw_at 1493 (by decide +kernel) rfl
theorem kk_1434 : Cond.instanceMethod ⟨"WhiteElephantsModel", "buyer", "(IIII)I"⟩ ∈ BW := bw_at 1494 (by decide +kernel) rfl
theorem kk_1435 : Cond.selects "WhiteElephantsModel" ⟨"WhiteElephantsModel", "buyer", "(IIII)I"⟩ ⟨"WhiteElephantsModel", "buyer", "(IIII)I"⟩ ∈ BW := bw_at 1495 (by decide +kernel) rfl
theorem kk_1441 : Cond.methodLink "WhiteElephantsLaw" 111 ⟨"WhiteElephantsModel", "buyerOf", "(II)I"⟩ ∈ BW := bw_at 1501 (by decide +kernel) rfl
theorem kk_1442 : Cond.instanceMethod ⟨"WhiteElephantsModel", "buyerOf", "(II)I"⟩ ∈ BW := bw_at 1502 (by decide +kernel) rfl
theorem kk_1443 : Cond.selects "WhiteElephantsModel" ⟨"WhiteElephantsModel", "buyerOf", "(II)I"⟩ ⟨"WhiteElephantsModel", "buyerOf", "(II)I"⟩ ∈ BW := bw_at 1503 (by decide +kernel) rfl
theorem kk_1449 : Cond.methodLink "WhiteElephantsLaw" 115 ⟨"WhiteElephantsModel", "turn", "(II)I"⟩ ∈ BW := bw_at 1509 (by decide +kernel) rfl
theorem kk_1450 : Cond.instanceMethod ⟨"WhiteElephantsModel", "turn", "(II)I"⟩ ∈ BW := bw_at 1510 (by decide +kernel) rfl
theorem kk_1451 : Cond.selects "WhiteElephantsModel" ⟨"WhiteElephantsModel", "turn", "(II)I"⟩ ⟨"WhiteElephantsModel", "turn", "(II)I"⟩ ∈ BW := bw_at 1511 (by decide +kernel) rfl
theorem kk_1453 : Cond.methodLink "WhiteElephantsLaw" 119 ⟨"WhiteElephantsModel", "costs", "(II)I"⟩ ∈ BW := bw_at 1513 (by decide +kernel) rfl
theorem kk_1454 : Cond.instanceMethod ⟨"WhiteElephantsModel", "costs", "(II)I"⟩ ∈ BW := bw_at 1514 (by decide +kernel) rfl
theorem kk_1455 : Cond.selects "WhiteElephantsModel" ⟨"WhiteElephantsModel", "costs", "(II)I"⟩ ⟨"WhiteElephantsModel", "costs", "(II)I"⟩ ∈ BW := bw_at 1515 (by decide +kernel) rfl
theorem kk_1461 : Cond.methodLink "WhiteElephantsLaw" 123 ⟨"WhiteElephantsModel", "takes", "(II)I"⟩ ∈ BW := bw_at 1521 (by decide +kernel) rfl
theorem kk_1462 : Cond.instanceMethod ⟨"WhiteElephantsModel", "takes", "(II)I"⟩ ∈ BW := bw_at 1522 (by decide +kernel) rfl
theorem kk_1463 : Cond.selects "WhiteElephantsModel" ⟨"WhiteElephantsModel", "takes", "(II)I"⟩ ⟨"WhiteElephantsModel", "takes", "(II)I"⟩ ∈ BW := bw_at 1523 (by decide +kernel) rfl
theorem kk_1473 : Cond.methodLink "WhiteElephantsLaw" 127 ⟨"WhiteElephantsModel", "takings", "(II)I"⟩ ∈ BW := bw_at 1533 (by decide +kernel) rfl
theorem kk_1474 : Cond.instanceMethod ⟨"WhiteElephantsModel", "takings", "(II)I"⟩ ∈ BW := bw_at 1534 (by decide +kernel) rfl
theorem kk_1475 : Cond.selects "WhiteElephantsModel" ⟨"WhiteElephantsModel", "takings", "(II)I"⟩ ⟨"WhiteElephantsModel", "takings", "(II)I"⟩ ∈ BW := bw_at 1535 (by decide +kernel) rfl
theorem kk_1481 : Cond.methodLink "WhiteElephantsLaw" 131 ⟨"WhiteElephantsModel", "best", "()I"⟩ ∈ BW := bw_at 1541 (by decide +kernel) rfl
theorem kk_1482 : Cond.instanceMethod ⟨"WhiteElephantsModel", "best", "()I"⟩ ∈ BW := bw_at 1542 (by decide +kernel) rfl
theorem kk_1483 : Cond.selects "WhiteElephantsModel" ⟨"WhiteElephantsModel", "best", "()I"⟩ ⟨"WhiteElephantsModel", "best", "()I"⟩ ∈ BW := bw_at 1543 (by decide +kernel) rfl
theorem kk_1485 : Cond.methodLink "WhiteElephantsLaw" 135 ⟨"WhiteElephantsModel", "judge", "(I)I"⟩ ∈ BW := bw_at 1545 (by decide +kernel) rfl
theorem kk_1486 : Cond.instanceMethod ⟨"WhiteElephantsModel", "judge", "(I)I"⟩ ∈ BW := bw_at 1546 (by decide +kernel) rfl
theorem kk_1487 : Cond.selects "WhiteElephantsModel" ⟨"WhiteElephantsModel", "judge", "(I)I"⟩ ⟨"WhiteElephantsModel", "judge", "(I)I"⟩ ∈ BW := bw_at 1547 (by decide +kernel) rfl
theorem kk_1489 : Cond.methodLink "WhiteElephantsLaw" 139 ⟨"WhiteElephantsModel", "rest", "(I)I"⟩ ∈ BW := bw_at 1549 (by decide +kernel) rfl
theorem kk_1490 : Cond.instanceMethod ⟨"WhiteElephantsModel", "rest", "(I)I"⟩ ∈ BW := bw_at 1550 (by decide +kernel) rfl
theorem kk_1491 : Cond.selects "WhiteElephantsModel" ⟨"WhiteElephantsModel", "rest", "(I)I"⟩ ⟨"WhiteElephantsModel", "rest", "(I)I"⟩ ∈ BW := bw_at 1551 (by decide +kernel) rfl
theorem kk_1493 : Cond.methodLink "WhiteElephantsLaw" 143 ⟨"WhiteElephantsModel", "loses", "(II)I"⟩ ∈ BW := bw_at 1553 (by decide +kernel) rfl
theorem kk_1494 : Cond.instanceMethod ⟨"WhiteElephantsModel", "loses", "(II)I"⟩ ∈ BW := bw_at 1554 (by decide +kernel) rfl
theorem kk_1495 : Cond.selects "WhiteElephantsModel" ⟨"WhiteElephantsModel", "loses", "(II)I"⟩ ⟨"WhiteElephantsModel", "loses", "(II)I"⟩ ∈ BW := bw_at 1555 (by decide +kernel) rfl
theorem kk_1501 : Cond.methodLink "WhiteElephantsLaw" 147 ⟨"WhiteElephantsModel", "go", "(I)I"⟩ ∈ BW := bw_at 1561 (by decide +kernel) rfl
theorem kk_1502 : Cond.instanceMethod ⟨"WhiteElephantsModel", "go", "(I)I"⟩ ∈ BW := bw_at 1562 (by decide +kernel) rfl
theorem kk_1503 : Cond.selects "WhiteElephantsModel" ⟨"WhiteElephantsModel", "go", "(I)I"⟩ ⟨"WhiteElephantsModel", "go", "(I)I"⟩ ∈ BW := bw_at 1563 (by decide +kernel) rfl
theorem kk_1505 : Cond.methodLink "WhiteElephantsLaw" 151 ⟨"WhiteElephantsModel", "day", "(I)I"⟩ ∈ BW := bw_at 1565 (by decide +kernel) rfl
theorem kk_1506 : Cond.instanceMethod ⟨"WhiteElephantsModel", "day", "(I)I"⟩ ∈ BW := bw_at 1566 (by decide +kernel) rfl
theorem kk_1507 : Cond.selects "WhiteElephantsModel" ⟨"WhiteElephantsModel", "day", "(I)I"⟩ ⟨"WhiteElephantsModel", "day", "(I)I"⟩ ∈ BW := bw_at 1567 (by decide +kernel) rfl
theorem kk_1513 : Cond.methodLink "WhiteElephantsLaw" 155 ⟨"WhiteElephantsModel", "morning", "()I"⟩ ∈ BW := bw_at 1573 (by decide +kernel) rfl
theorem kk_1514 : Cond.instanceMethod ⟨"WhiteElephantsModel", "morning", "()I"⟩ ∈ BW := bw_at 1574 (by decide +kernel) rfl
theorem kk_1515 : Cond.selects "WhiteElephantsModel" ⟨"WhiteElephantsModel", "morning", "()I"⟩ ⟨"WhiteElephantsModel", "morning", "()I"⟩ ∈ BW := bw_at 1575 (by decide +kernel) rfl
theorem kk_1517 : Cond.methodLink "WhiteElephantsLaw" 159 ⟨"WhiteElephantsModel", "shown", "(I)I"⟩ ∈ BW := bw_at 1577 (by decide +kernel) rfl
theorem kk_1518 : Cond.instanceMethod ⟨"WhiteElephantsModel", "shown", "(I)I"⟩ ∈ BW := bw_at 1578 (by decide +kernel) rfl
theorem kk_1519 : Cond.selects "WhiteElephantsModel" ⟨"WhiteElephantsModel", "shown", "(I)I"⟩ ⟨"WhiteElephantsModel", "shown", "(I)I"⟩ ∈ BW := bw_at 1579 (by decide +kernel) rfl
theorem kk_1521 : Cond.methodLink "WhiteElephantsLaw" 163 ⟨"WhiteElephantsModel", "table", "(I)I"⟩ ∈ BW := bw_at 1581 (by decide +kernel) rfl
theorem kk_1522 : Cond.instanceMethod ⟨"WhiteElephantsModel", "table", "(I)I"⟩ ∈ BW := bw_at 1582 (by decide +kernel) rfl
theorem kk_1523 : Cond.selects "WhiteElephantsModel" ⟨"WhiteElephantsModel", "table", "(I)I"⟩ ⟨"WhiteElephantsModel", "table", "(I)I"⟩ ∈ BW := bw_at 1583 (by decide +kernel) rfl
theorem kk_1525 : Cond.methodLink "WhiteElephantsLaw" 167 ⟨"WhiteElephantsModel", "who", "(I)I"⟩ ∈ BW := bw_at 1585 (by decide +kernel) rfl
theorem kk_1526 : Cond.instanceMethod ⟨"WhiteElephantsModel", "who", "(I)I"⟩ ∈ BW := bw_at 1586 (by decide +kernel) rfl
theorem kk_1527 : Cond.selects "WhiteElephantsModel" ⟨"WhiteElephantsModel", "who", "(I)I"⟩ ⟨"WhiteElephantsModel", "who", "(I)I"⟩ ∈ BW := bw_at 1587 (by decide +kernel) rfl
theorem kk_1529 : Cond.methodLink "WhiteElephantsLaw" 171 ⟨"WhiteElephantsModel", "sight", "(IIII)I"⟩ ∈ BW := bw_at 1589 (by decide +kernel) rfl
theorem kk_1530 : Cond.instanceMethod ⟨"WhiteElephantsModel", "sight", "(IIII)I"⟩ ∈ BW := bw_at 1590 (by decide +kernel) rfl
theorem kk_1531 : Cond.selects "WhiteElephantsModel" ⟨"WhiteElephantsModel", "sight", "(IIII)I"⟩ ⟨"WhiteElephantsModel", "sight", "(IIII)I"⟩ ∈ BW := bw_at 1591 (by decide +kernel) rfl
theorem kk_1537 : Cond.methodLink "WhiteElephantsLaw" 175 ⟨"WhiteElephantsModel", "same", "(II)I"⟩ ∈ BW := bw_at 1597 (by decide +kernel) rfl
theorem kk_1538 : Cond.instanceMethod ⟨"WhiteElephantsModel", "same", "(II)I"⟩ ∈ BW := bw_at 1598 (by decide +kernel) rfl
theorem kk_1539 : Cond.selects "WhiteElephantsModel" ⟨"WhiteElephantsModel", "same", "(II)I"⟩ ⟨"WhiteElephantsModel", "same", "(II)I"⟩ ∈ BW := bw_at 1599 (by decide +kernel) rfl
theorem kk_1545 : Cond.methodLink "WhiteElephantsLaw" 179 ⟨"WhiteElephantsModel", "vases", "()I"⟩ ∈ BW := bw_at 1605 (by decide +kernel) rfl
theorem kk_1546 : Cond.instanceMethod ⟨"WhiteElephantsModel", "vases", "()I"⟩ ∈ BW := bw_at 1606 (by decide +kernel) rfl
theorem kk_1547 : Cond.selects "WhiteElephantsModel" ⟨"WhiteElephantsModel", "vases", "()I"⟩ ⟨"WhiteElephantsModel", "vases", "()I"⟩ ∈ BW := bw_at 1607 (by decide +kernel) rfl
theorem kk_1553 : Cond.methodLink "WhiteElephantsLaw" 183 ⟨"WhiteElephantsModel", "longest", "()I"⟩ ∈ BW := bw_at 1613 (by decide +kernel) rfl
theorem kk_1554 : Cond.instanceMethod ⟨"WhiteElephantsModel", "longest", "()I"⟩ ∈ BW := bw_at 1614 (by decide +kernel) rfl
theorem kk_1555 : Cond.selects "WhiteElephantsModel" ⟨"WhiteElephantsModel", "longest", "()I"⟩ ⟨"WhiteElephantsModel", "longest", "()I"⟩ ∈ BW := bw_at 1615 (by decide +kernel) rfl
theorem kk_1557 : Cond.methodLink "WhiteElephantsLaw" 187 ⟨"WhiteElephantsModel", "secret", "(II)I"⟩ ∈ BW := bw_at 1617 (by decide +kernel) rfl
theorem kk_1558 : Cond.instanceMethod ⟨"WhiteElephantsModel", "secret", "(II)I"⟩ ∈ BW := bw_at 1618 (by decide +kernel) rfl
theorem kk_1559 : Cond.selects "WhiteElephantsModel" ⟨"WhiteElephantsModel", "secret", "(II)I"⟩ ⟨"WhiteElephantsModel", "secret", "(II)I"⟩ ∈ BW := bw_at 1619 (by decide +kernel) rfl
theorem kk_1561 : Cond.methodLink "WhiteElephantsLaw" 191 ⟨"WhiteElephantsModel", "looks", "(II)I"⟩ ∈ BW := bw_at 1621 (by decide +kernel) rfl
theorem kk_1562 : Cond.instanceMethod ⟨"WhiteElephantsModel", "looks", "(II)I"⟩ ∈ BW := bw_at 1622 (by decide +kernel) rfl
theorem kk_1563 : Cond.selects "WhiteElephantsModel" ⟨"WhiteElephantsModel", "looks", "(II)I"⟩ ⟨"WhiteElephantsModel", "looks", "(II)I"⟩ ∈ BW := bw_at 1623 (by decide +kernel) rfl
theorem kk_1565 : Cond.methodLink "WhiteElephantsLaw" 195 ⟨"WhiteElephantsModel", "laid", "(II)I"⟩ ∈ BW := bw_at 1625 (by decide +kernel) rfl
theorem kk_1566 : Cond.instanceMethod ⟨"WhiteElephantsModel", "laid", "(II)I"⟩ ∈ BW := bw_at 1626 (by decide +kernel) rfl
theorem kk_1567 : Cond.selects "WhiteElephantsModel" ⟨"WhiteElephantsModel", "laid", "(II)I"⟩ ⟨"WhiteElephantsModel", "laid", "(II)I"⟩ ∈ BW := bw_at 1627 (by decide +kernel) rfl
theorem kk_1573 : Cond.methodLink "WhiteElephantsLaw" 199 ⟨"WhiteElephantsModel", "shortBy", "(I)I"⟩ ∈ BW := bw_at 1633 (by decide +kernel) rfl
theorem kk_1574 : Cond.instanceMethod ⟨"WhiteElephantsModel", "shortBy", "(I)I"⟩ ∈ BW := bw_at 1634 (by decide +kernel) rfl
theorem kk_1575 : Cond.selects "WhiteElephantsModel" ⟨"WhiteElephantsModel", "shortBy", "(I)I"⟩ ⟨"WhiteElephantsModel", "shortBy", "(I)I"⟩ ∈ BW := bw_at 1635 (by decide +kernel) rfl
theorem kk_1578 : Cond.methodLink "WhiteElephantsLaw" 203 ⟨"WhiteElephantsModel", "hall", "(II)I"⟩ ∈ BW := bw_at 1638 (by decide +kernel) rfl
theorem kk_1579 : Cond.instanceMethod ⟨"WhiteElephantsModel", "hall", "(II)I"⟩ ∈ BW := bw_at 1639 (by decide +kernel) rfl
theorem kk_1580 : Cond.selects "WhiteElephantsModel" ⟨"WhiteElephantsModel", "hall", "(II)I"⟩ ⟨"WhiteElephantsModel", "hall", "(II)I"⟩ ∈ BW := bw_at 1640 (by decide +kernel) rfl
theorem kk_1586 : Cond.methodLink "WhiteElephantsLaw" 207 ⟨"WhiteElephantsModel", "image", "()I"⟩ ∈ BW := bw_at 1646 (by decide +kernel) rfl
theorem kk_1587 : Cond.instanceMethod ⟨"WhiteElephantsModel", "image", "()I"⟩ ∈ BW := bw_at 1647 (by decide +kernel) rfl
theorem kk_1588 : Cond.selects "WhiteElephantsModel" ⟨"WhiteElephantsModel", "image", "()I"⟩ ⟨"WhiteElephantsModel", "image", "()I"⟩ ∈ BW := bw_at 1648 (by decide +kernel) rfl
theorem kk_1598 : Cond.methodLink "WhiteElephantsLaw" 211 ⟨"WhiteElephantsModel", "back", "()I"⟩ ∈ BW := bw_at 1658 (by decide +kernel) rfl
theorem kk_1599 : Cond.instanceMethod ⟨"WhiteElephantsModel", "back", "()I"⟩ ∈ BW := bw_at 1659 (by decide +kernel) rfl
theorem kk_1600 : Cond.selects "WhiteElephantsModel" ⟨"WhiteElephantsModel", "back", "()I"⟩ ⟨"WhiteElephantsModel", "back", "()I"⟩ ∈ BW := bw_at 1660 (by decide +kernel) rfl
theorem kk_1602 : Cond.methodLink "WhiteElephantsLaw" 215 ⟨"WhiteElephantsModel", "status", "(I)I"⟩ ∈ BW := bw_at 1662 (by decide +kernel) rfl
theorem kk_1603 : Cond.instanceMethod ⟨"WhiteElephantsModel", "status", "(I)I"⟩ ∈ BW := bw_at 1663 (by decide +kernel) rfl
theorem kk_1604 : Cond.selects "WhiteElephantsModel" ⟨"WhiteElephantsModel", "status", "(I)I"⟩ ⟨"WhiteElephantsModel", "status", "(I)I"⟩ ∈ BW := bw_at 1664 (by decide +kernel) rfl
theorem kk_1606 : Cond.constantLong "WhiteElephantsLaw" 18 (4294967295 : Int64) ∈ BW := bw_at 1666 (by decide +kernel) rfl
theorem dd_L_law_0 : decode code 0 = .ok (.new 7, 3) := by decide +kernel
theorem dd_L_law_3 : decode code 3 = .ok (.dup, 1) := by decide +kernel
theorem dd_L_law_4 : decode code 4 = .ok (.invokespecial 9, 3) := by decide +kernel
theorem dd_L_law_7 : decode code 7 = .ok (.astore_n 1, 1) := by decide +kernel
theorem dd_L_law_8 : decode code 8 = .ok (.new 10, 3) := by decide +kernel
theorem dd_L_law_11 : decode code 11 = .ok (.dup, 1) := by decide +kernel
theorem dd_L_law_12 : decode code 12 = .ok (.invokespecial 12, 3) := by decide +kernel
theorem dd_L_law_15 : decode code 15 = .ok (.astore_n 2, 1) := by decide +kernel
theorem dd_L_law_16 : decode code 16 = .ok (.iconst 0, 1) := by decide +kernel
theorem dd_L_law_17 : decode code 17 = .ok (.istore_n 3, 1) := by decide +kernel
theorem dd_L_law_18 : decode code 18 = .ok (.iload_n 3, 1) := by decide +kernel
theorem dd_L_law_19 : decode code 19 = .ok (.aload_n 0, 1) := by decide +kernel
theorem dd_L_law_20 : decode code 20 = .ok (.arraylength, 1) := by decide +kernel
theorem dd_L_law_21 : decode code 21 = .ok (.bipush 6, 2) := by decide +kernel
theorem dd_L_law_23 : decode code 23 = .ok (.isub, 1) := by decide +kernel
theorem dd_L_law_24 : decode code 24 = .ok (.if_icmp .gt 1713, 3) := by decide +kernel
theorem dd_L_law_27 : decode code 27 = .ok (.aload_n 0, 1) := by decide +kernel
theorem dd_L_law_28 : decode code 28 = .ok (.iload_n 3, 1) := by decide +kernel
theorem dd_L_law_29 : decode code 29 = .ok (.iaload, 1) := by decide +kernel
theorem dd_L_law_30 : decode code 30 = .ok (.bipush 63, 2) := by decide +kernel
theorem dd_L_law_32 : decode code 32 = .ok (.iand, 1) := by decide +kernel
theorem dd_L_law_33 : decode code 33 = .ok (.tableswitch 1698 0 47 #[207, 250, 323, 386, 420, 443, 476, 509, 552, 595, 628, 661, 694, 727, 760, 773, 786, 819, 878, 911, 944, 997, 1030, 1063, 1096, 1129, 1162, 1175, 1198, 1221, 1254, 1277, 1300, 1313, 1336, 1359, 1382, 1435, 1468, 1481, 1494, 1527, 1560, 1593, 1616, 1649, 1662, 1675], 207) := by decide +kernel
theorem dd_L_law_240 : decode code 240 = .ok (.aload_n 1, 1) := by decide +kernel
theorem dd_L_law_241 : decode code 241 = .ok (.aload_n 0, 1) := by decide +kernel
theorem dd_L_law_242 : decode code 242 = .ok (.iload_n 3, 1) := by decide +kernel
theorem dd_L_law_243 : decode code 243 = .ok (.iconst 1, 1) := by decide +kernel
theorem dd_L_law_244 : decode code 244 = .ok (.iadd, 1) := by decide +kernel
theorem dd_L_law_245 : decode code 245 = .ok (.iaload, 1) := by decide +kernel
theorem dd_L_law_246 : decode code 246 = .ok (.aload_n 0, 1) := by decide +kernel
theorem dd_L_law_247 : decode code 247 = .ok (.iload_n 3, 1) := by decide +kernel
theorem dd_L_law_248 : decode code 248 = .ok (.iconst 2, 1) := by decide +kernel
theorem dd_L_law_249 : decode code 249 = .ok (.iadd, 1) := by decide +kernel
theorem dd_L_law_250 : decode code 250 = .ok (.iaload, 1) := by decide +kernel
theorem dd_L_law_251 : decode code 251 = .ok (.aload_n 0, 1) := by decide +kernel
theorem dd_L_law_252 : decode code 252 = .ok (.iload_n 3, 1) := by decide +kernel
theorem dd_L_law_253 : decode code 253 = .ok (.iconst 3, 1) := by decide +kernel
theorem dd_L_law_254 : decode code 254 = .ok (.iadd, 1) := by decide +kernel
theorem dd_L_law_255 : decode code 255 = .ok (.iaload, 1) := by decide +kernel
theorem dd_L_law_256 : decode code 256 = .ok (.invokevirtual 13, 3) := by decide +kernel
theorem dd_L_law_259 : decode code 259 = .ok (.aload_n 2, 1) := by decide +kernel
theorem dd_L_law_260 : decode code 260 = .ok (.aload_n 0, 1) := by decide +kernel
theorem dd_L_law_261 : decode code 261 = .ok (.iload_n 3, 1) := by decide +kernel
theorem dd_L_law_262 : decode code 262 = .ok (.iconst 1, 1) := by decide +kernel
theorem dd_L_law_263 : decode code 263 = .ok (.iadd, 1) := by decide +kernel
theorem dd_L_law_264 : decode code 264 = .ok (.iaload, 1) := by decide +kernel
theorem dd_L_law_265 : decode code 265 = .ok (.aload_n 0, 1) := by decide +kernel
theorem dd_L_law_266 : decode code 266 = .ok (.iload_n 3, 1) := by decide +kernel
theorem dd_L_law_267 : decode code 267 = .ok (.iconst 2, 1) := by decide +kernel
theorem dd_L_law_268 : decode code 268 = .ok (.iadd, 1) := by decide +kernel
theorem dd_L_law_269 : decode code 269 = .ok (.iaload, 1) := by decide +kernel
theorem dd_L_law_270 : decode code 270 = .ok (.aload_n 0, 1) := by decide +kernel
theorem dd_L_law_271 : decode code 271 = .ok (.iload_n 3, 1) := by decide +kernel
theorem dd_L_law_272 : decode code 272 = .ok (.iconst 3, 1) := by decide +kernel
theorem dd_L_law_273 : decode code 273 = .ok (.iadd, 1) := by decide +kernel
theorem dd_L_law_274 : decode code 274 = .ok (.iaload, 1) := by decide +kernel
theorem dd_L_law_275 : decode code 275 = .ok (.invokevirtual 17, 3) := by decide +kernel
theorem dd_L_law_278 : decode code 278 = .ok (.if_icmp .eq 1453, 3) := by decide +kernel
theorem dd_L_law_283 : decode code 283 = .ok (.aload_n 1, 1) := by decide +kernel
theorem dd_L_law_284 : decode code 284 = .ok (.aload_n 0, 1) := by decide +kernel
theorem dd_L_law_285 : decode code 285 = .ok (.iload_n 3, 1) := by decide +kernel
theorem dd_L_law_286 : decode code 286 = .ok (.iconst 1, 1) := by decide +kernel
theorem dd_L_law_287 : decode code 287 = .ok (.iadd, 1) := by decide +kernel
theorem dd_L_law_288 : decode code 288 = .ok (.iaload, 1) := by decide +kernel
theorem dd_L_law_289 : decode code 289 = .ok (.aload_n 0, 1) := by decide +kernel
theorem dd_L_law_290 : decode code 290 = .ok (.iload_n 3, 1) := by decide +kernel
theorem dd_L_law_291 : decode code 291 = .ok (.iconst 2, 1) := by decide +kernel
theorem dd_L_law_292 : decode code 292 = .ok (.iadd, 1) := by decide +kernel
theorem dd_L_law_293 : decode code 293 = .ok (.iaload, 1) := by decide +kernel
theorem dd_L_law_294 : decode code 294 = .ok (.aload_n 0, 1) := by decide +kernel
theorem dd_L_law_295 : decode code 295 = .ok (.iload_n 3, 1) := by decide +kernel
theorem dd_L_law_296 : decode code 296 = .ok (.iconst 3, 1) := by decide +kernel
theorem dd_L_law_297 : decode code 297 = .ok (.iadd, 1) := by decide +kernel
theorem dd_L_law_298 : decode code 298 = .ok (.iaload, 1) := by decide +kernel
theorem dd_L_law_299 : decode code 299 = .ok (.i2l, 1) := by decide +kernel
theorem dd_L_law_300 : decode code 300 = .ok (.bipush 32, 2) := by decide +kernel
theorem dd_L_law_302 : decode code 302 = .ok (.lshl, 1) := by decide +kernel
theorem dd_L_law_303 : decode code 303 = .ok (.aload_n 0, 1) := by decide +kernel
theorem dd_L_law_304 : decode code 304 = .ok (.iload_n 3, 1) := by decide +kernel
theorem dd_L_law_305 : decode code 305 = .ok (.iconst 4, 1) := by decide +kernel
theorem dd_L_law_306 : decode code 306 = .ok (.iadd, 1) := by decide +kernel
theorem dd_L_law_307 : decode code 307 = .ok (.iaload, 1) := by decide +kernel
theorem dd_L_law_308 : decode code 308 = .ok (.i2l, 1) := by decide +kernel
theorem dd_L_law_309 : decode code 309 = .ok (.ldc2_w 18, 3) := by decide +kernel
theorem dd_L_law_312 : decode code 312 = .ok (.land, 1) := by decide +kernel
theorem dd_L_law_313 : decode code 313 = .ok (.lor, 1) := by decide +kernel
theorem dd_L_law_314 : decode code 314 = .ok (.invokevirtual 20, 3) := by decide +kernel
theorem dd_L_law_317 : decode code 317 = .ok (.aload_n 2, 1) := by decide +kernel
theorem dd_L_law_318 : decode code 318 = .ok (.aload_n 0, 1) := by decide +kernel
theorem dd_L_law_319 : decode code 319 = .ok (.iload_n 3, 1) := by decide +kernel
theorem dd_L_law_320 : decode code 320 = .ok (.iconst 1, 1) := by decide +kernel
theorem dd_L_law_321 : decode code 321 = .ok (.iadd, 1) := by decide +kernel
theorem dd_L_law_322 : decode code 322 = .ok (.iaload, 1) := by decide +kernel
theorem dd_L_law_323 : decode code 323 = .ok (.aload_n 0, 1) := by decide +kernel
theorem dd_L_law_324 : decode code 324 = .ok (.iload_n 3, 1) := by decide +kernel
theorem dd_L_law_325 : decode code 325 = .ok (.iconst 2, 1) := by decide +kernel
theorem dd_L_law_326 : decode code 326 = .ok (.iadd, 1) := by decide +kernel
theorem dd_L_law_327 : decode code 327 = .ok (.iaload, 1) := by decide +kernel
theorem dd_L_law_328 : decode code 328 = .ok (.aload_n 0, 1) := by decide +kernel
theorem dd_L_law_329 : decode code 329 = .ok (.iload_n 3, 1) := by decide +kernel
theorem dd_L_law_330 : decode code 330 = .ok (.iconst 3, 1) := by decide +kernel
theorem dd_L_law_331 : decode code 331 = .ok (.iadd, 1) := by decide +kernel
theorem dd_L_law_332 : decode code 332 = .ok (.iaload, 1) := by decide +kernel
theorem dd_L_law_333 : decode code 333 = .ok (.i2l, 1) := by decide +kernel
theorem dd_L_law_334 : decode code 334 = .ok (.bipush 32, 2) := by decide +kernel
theorem dd_L_law_336 : decode code 336 = .ok (.lshl, 1) := by decide +kernel
theorem dd_L_law_337 : decode code 337 = .ok (.aload_n 0, 1) := by decide +kernel
theorem dd_L_law_338 : decode code 338 = .ok (.iload_n 3, 1) := by decide +kernel
theorem dd_L_law_339 : decode code 339 = .ok (.iconst 4, 1) := by decide +kernel
theorem dd_L_law_340 : decode code 340 = .ok (.iadd, 1) := by decide +kernel
theorem dd_L_law_341 : decode code 341 = .ok (.iaload, 1) := by decide +kernel
theorem dd_L_law_342 : decode code 342 = .ok (.i2l, 1) := by decide +kernel
theorem dd_L_law_343 : decode code 343 = .ok (.ldc2_w 18, 3) := by decide +kernel
theorem dd_L_law_346 : decode code 346 = .ok (.land, 1) := by decide +kernel
theorem dd_L_law_347 : decode code 347 = .ok (.lor, 1) := by decide +kernel
theorem dd_L_law_348 : decode code 348 = .ok (.invokevirtual 24, 3) := by decide +kernel
theorem dd_L_law_351 : decode code 351 = .ok (.if_icmp .eq 1380, 3) := by decide +kernel
theorem dd_L_law_356 : decode code 356 = .ok (.aload_n 1, 1) := by decide +kernel
theorem dd_L_law_357 : decode code 357 = .ok (.aload_n 0, 1) := by decide +kernel
theorem dd_L_law_358 : decode code 358 = .ok (.iload_n 3, 1) := by decide +kernel
theorem dd_L_law_359 : decode code 359 = .ok (.iconst 1, 1) := by decide +kernel
theorem dd_L_law_360 : decode code 360 = .ok (.iadd, 1) := by decide +kernel
theorem dd_L_law_361 : decode code 361 = .ok (.iaload, 1) := by decide +kernel
theorem dd_L_law_362 : decode code 362 = .ok (.aload_n 0, 1) := by decide +kernel
theorem dd_L_law_363 : decode code 363 = .ok (.iload_n 3, 1) := by decide +kernel
theorem dd_L_law_364 : decode code 364 = .ok (.iconst 2, 1) := by decide +kernel
theorem dd_L_law_365 : decode code 365 = .ok (.iadd, 1) := by decide +kernel
theorem dd_L_law_366 : decode code 366 = .ok (.iaload, 1) := by decide +kernel
theorem dd_L_law_367 : decode code 367 = .ok (.aload_n 0, 1) := by decide +kernel
theorem dd_L_law_368 : decode code 368 = .ok (.iload_n 3, 1) := by decide +kernel
theorem dd_L_law_369 : decode code 369 = .ok (.iconst 3, 1) := by decide +kernel
theorem dd_L_law_370 : decode code 370 = .ok (.iadd, 1) := by decide +kernel
theorem dd_L_law_371 : decode code 371 = .ok (.iaload, 1) := by decide +kernel
theorem dd_L_law_372 : decode code 372 = .ok (.aload_n 0, 1) := by decide +kernel
theorem dd_L_law_373 : decode code 373 = .ok (.iload_n 3, 1) := by decide +kernel
theorem dd_L_law_374 : decode code 374 = .ok (.iconst 4, 1) := by decide +kernel
theorem dd_L_law_375 : decode code 375 = .ok (.iadd, 1) := by decide +kernel
theorem dd_L_law_376 : decode code 376 = .ok (.iaload, 1) := by decide +kernel
theorem dd_L_law_377 : decode code 377 = .ok (.aload_n 0, 1) := by decide +kernel
theorem dd_L_law_378 : decode code 378 = .ok (.iload_n 3, 1) := by decide +kernel
theorem dd_L_law_379 : decode code 379 = .ok (.iconst 5, 1) := by decide +kernel
theorem dd_L_law_380 : decode code 380 = .ok (.iadd, 1) := by decide +kernel
theorem dd_L_law_381 : decode code 381 = .ok (.iaload, 1) := by decide +kernel
theorem dd_L_law_382 : decode code 382 = .ok (.invokevirtual 25, 3) := by decide +kernel
theorem dd_L_law_385 : decode code 385 = .ok (.aload_n 2, 1) := by decide +kernel
theorem dd_L_law_386 : decode code 386 = .ok (.aload_n 0, 1) := by decide +kernel
theorem dd_L_law_387 : decode code 387 = .ok (.iload_n 3, 1) := by decide +kernel
theorem dd_L_law_388 : decode code 388 = .ok (.iconst 1, 1) := by decide +kernel
theorem dd_L_law_389 : decode code 389 = .ok (.iadd, 1) := by decide +kernel
theorem dd_L_law_390 : decode code 390 = .ok (.iaload, 1) := by decide +kernel
theorem dd_L_law_391 : decode code 391 = .ok (.aload_n 0, 1) := by decide +kernel
theorem dd_L_law_392 : decode code 392 = .ok (.iload_n 3, 1) := by decide +kernel
theorem dd_L_law_393 : decode code 393 = .ok (.iconst 2, 1) := by decide +kernel
theorem dd_L_law_394 : decode code 394 = .ok (.iadd, 1) := by decide +kernel
theorem dd_L_law_395 : decode code 395 = .ok (.iaload, 1) := by decide +kernel
theorem dd_L_law_396 : decode code 396 = .ok (.aload_n 0, 1) := by decide +kernel
theorem dd_L_law_397 : decode code 397 = .ok (.iload_n 3, 1) := by decide +kernel
theorem dd_L_law_398 : decode code 398 = .ok (.iconst 3, 1) := by decide +kernel
theorem dd_L_law_399 : decode code 399 = .ok (.iadd, 1) := by decide +kernel
theorem dd_L_law_400 : decode code 400 = .ok (.iaload, 1) := by decide +kernel
theorem dd_L_law_401 : decode code 401 = .ok (.aload_n 0, 1) := by decide +kernel
theorem dd_L_law_402 : decode code 402 = .ok (.iload_n 3, 1) := by decide +kernel
theorem dd_L_law_403 : decode code 403 = .ok (.iconst 4, 1) := by decide +kernel
theorem dd_L_law_404 : decode code 404 = .ok (.iadd, 1) := by decide +kernel
theorem dd_L_law_405 : decode code 405 = .ok (.iaload, 1) := by decide +kernel
theorem dd_L_law_406 : decode code 406 = .ok (.aload_n 0, 1) := by decide +kernel
theorem dd_L_law_407 : decode code 407 = .ok (.iload_n 3, 1) := by decide +kernel
theorem dd_L_law_408 : decode code 408 = .ok (.iconst 5, 1) := by decide +kernel
theorem dd_L_law_409 : decode code 409 = .ok (.iadd, 1) := by decide +kernel
theorem dd_L_law_410 : decode code 410 = .ok (.iaload, 1) := by decide +kernel
theorem dd_L_law_411 : decode code 411 = .ok (.invokevirtual 29, 3) := by decide +kernel
theorem dd_L_law_414 : decode code 414 = .ok (.if_icmp .eq 1317, 3) := by decide +kernel
theorem dd_L_law_419 : decode code 419 = .ok (.aload_n 1, 1) := by decide +kernel
theorem dd_L_law_420 : decode code 420 = .ok (.aload_n 0, 1) := by decide +kernel
theorem dd_L_law_421 : decode code 421 = .ok (.iload_n 3, 1) := by decide +kernel
theorem dd_L_law_422 : decode code 422 = .ok (.iconst 1, 1) := by decide +kernel
theorem dd_L_law_423 : decode code 423 = .ok (.iadd, 1) := by decide +kernel
theorem dd_L_law_424 : decode code 424 = .ok (.iaload, 1) := by decide +kernel
theorem dd_L_law_425 : decode code 425 = .ok (.aload_n 0, 1) := by decide +kernel
theorem dd_L_law_426 : decode code 426 = .ok (.iload_n 3, 1) := by decide +kernel
theorem dd_L_law_427 : decode code 427 = .ok (.iconst 2, 1) := by decide +kernel
theorem dd_L_law_428 : decode code 428 = .ok (.iadd, 1) := by decide +kernel
theorem dd_L_law_429 : decode code 429 = .ok (.iaload, 1) := by decide +kernel
theorem dd_L_law_430 : decode code 430 = .ok (.invokevirtual 30, 3) := by decide +kernel
theorem dd_L_law_433 : decode code 433 = .ok (.aload_n 2, 1) := by decide +kernel
theorem dd_L_law_434 : decode code 434 = .ok (.aload_n 0, 1) := by decide +kernel
theorem dd_L_law_435 : decode code 435 = .ok (.iload_n 3, 1) := by decide +kernel
theorem dd_L_law_436 : decode code 436 = .ok (.iconst 1, 1) := by decide +kernel
theorem dd_L_law_437 : decode code 437 = .ok (.iadd, 1) := by decide +kernel
theorem dd_L_law_438 : decode code 438 = .ok (.iaload, 1) := by decide +kernel
theorem dd_L_law_439 : decode code 439 = .ok (.aload_n 0, 1) := by decide +kernel
theorem dd_L_law_440 : decode code 440 = .ok (.iload_n 3, 1) := by decide +kernel
theorem dd_L_law_441 : decode code 441 = .ok (.iconst 2, 1) := by decide +kernel
theorem dd_L_law_442 : decode code 442 = .ok (.iadd, 1) := by decide +kernel
theorem dd_L_law_443 : decode code 443 = .ok (.iaload, 1) := by decide +kernel
theorem dd_L_law_444 : decode code 444 = .ok (.invokevirtual 34, 3) := by decide +kernel
theorem dd_L_law_447 : decode code 447 = .ok (.lcmp, 1) := by decide +kernel
theorem dd_L_law_448 : decode code 448 = .ok (.ifCond .eq 1283, 3) := by decide +kernel
theorem dd_L_law_453 : decode code 453 = .ok (.aload_n 1, 1) := by decide +kernel
theorem dd_L_law_454 : decode code 454 = .ok (.aload_n 0, 1) := by decide +kernel
theorem dd_L_law_455 : decode code 455 = .ok (.iload_n 3, 1) := by decide +kernel
theorem dd_L_law_456 : decode code 456 = .ok (.iconst 1, 1) := by decide +kernel
theorem dd_L_law_457 : decode code 457 = .ok (.iadd, 1) := by decide +kernel
theorem dd_L_law_458 : decode code 458 = .ok (.iaload, 1) := by decide +kernel
theorem dd_L_law_459 : decode code 459 = .ok (.invokevirtual 35, 3) := by decide +kernel
theorem dd_L_law_462 : decode code 462 = .ok (.aload_n 2, 1) := by decide +kernel
theorem dd_L_law_463 : decode code 463 = .ok (.aload_n 0, 1) := by decide +kernel
theorem dd_L_law_464 : decode code 464 = .ok (.iload_n 3, 1) := by decide +kernel
theorem dd_L_law_465 : decode code 465 = .ok (.iconst 1, 1) := by decide +kernel
theorem dd_L_law_466 : decode code 466 = .ok (.iadd, 1) := by decide +kernel
theorem dd_L_law_467 : decode code 467 = .ok (.iaload, 1) := by decide +kernel
theorem dd_L_law_468 : decode code 468 = .ok (.invokevirtual 39, 3) := by decide +kernel
theorem dd_L_law_471 : decode code 471 = .ok (.if_icmp .eq 1260, 3) := by decide +kernel
theorem dd_L_law_476 : decode code 476 = .ok (.aload_n 1, 1) := by decide +kernel
theorem dd_L_law_477 : decode code 477 = .ok (.aload_n 0, 1) := by decide +kernel
theorem dd_L_law_478 : decode code 478 = .ok (.iload_n 3, 1) := by decide +kernel
theorem dd_L_law_479 : decode code 479 = .ok (.iconst 1, 1) := by decide +kernel
theorem dd_L_law_480 : decode code 480 = .ok (.iadd, 1) := by decide +kernel
theorem dd_L_law_481 : decode code 481 = .ok (.iaload, 1) := by decide +kernel
theorem dd_L_law_482 : decode code 482 = .ok (.aload_n 0, 1) := by decide +kernel
theorem dd_L_law_483 : decode code 483 = .ok (.iload_n 3, 1) := by decide +kernel
theorem dd_L_law_484 : decode code 484 = .ok (.iconst 2, 1) := by decide +kernel
theorem dd_L_law_485 : decode code 485 = .ok (.iadd, 1) := by decide +kernel
theorem dd_L_law_486 : decode code 486 = .ok (.iaload, 1) := by decide +kernel
theorem dd_L_law_487 : decode code 487 = .ok (.invokevirtual 40, 3) := by decide +kernel
theorem dd_L_law_490 : decode code 490 = .ok (.aload_n 2, 1) := by decide +kernel
theorem dd_L_law_491 : decode code 491 = .ok (.aload_n 0, 1) := by decide +kernel
theorem dd_L_law_492 : decode code 492 = .ok (.iload_n 3, 1) := by decide +kernel
theorem dd_L_law_493 : decode code 493 = .ok (.iconst 1, 1) := by decide +kernel
theorem dd_L_law_494 : decode code 494 = .ok (.iadd, 1) := by decide +kernel
theorem dd_L_law_495 : decode code 495 = .ok (.iaload, 1) := by decide +kernel
theorem dd_L_law_496 : decode code 496 = .ok (.aload_n 0, 1) := by decide +kernel
theorem dd_L_law_497 : decode code 497 = .ok (.iload_n 3, 1) := by decide +kernel
theorem dd_L_law_498 : decode code 498 = .ok (.iconst 2, 1) := by decide +kernel
theorem dd_L_law_499 : decode code 499 = .ok (.iadd, 1) := by decide +kernel
theorem dd_L_law_500 : decode code 500 = .ok (.iaload, 1) := by decide +kernel
theorem dd_L_law_501 : decode code 501 = .ok (.invokevirtual 44, 3) := by decide +kernel
theorem dd_L_law_504 : decode code 504 = .ok (.if_icmp .eq 1227, 3) := by decide +kernel
theorem dd_L_law_509 : decode code 509 = .ok (.aload_n 1, 1) := by decide +kernel
theorem dd_L_law_510 : decode code 510 = .ok (.aload_n 0, 1) := by decide +kernel
theorem dd_L_law_511 : decode code 511 = .ok (.iload_n 3, 1) := by decide +kernel
theorem dd_L_law_512 : decode code 512 = .ok (.iconst 1, 1) := by decide +kernel
theorem dd_L_law_513 : decode code 513 = .ok (.iadd, 1) := by decide +kernel
theorem dd_L_law_514 : decode code 514 = .ok (.iaload, 1) := by decide +kernel
theorem dd_L_law_515 : decode code 515 = .ok (.aload_n 0, 1) := by decide +kernel
theorem dd_L_law_516 : decode code 516 = .ok (.iload_n 3, 1) := by decide +kernel
theorem dd_L_law_517 : decode code 517 = .ok (.iconst 2, 1) := by decide +kernel
theorem dd_L_law_518 : decode code 518 = .ok (.iadd, 1) := by decide +kernel
theorem dd_L_law_519 : decode code 519 = .ok (.iaload, 1) := by decide +kernel
theorem dd_L_law_520 : decode code 520 = .ok (.invokevirtual 45, 3) := by decide +kernel
theorem dd_L_law_523 : decode code 523 = .ok (.aload_n 2, 1) := by decide +kernel
theorem dd_L_law_524 : decode code 524 = .ok (.aload_n 0, 1) := by decide +kernel
theorem dd_L_law_525 : decode code 525 = .ok (.iload_n 3, 1) := by decide +kernel
theorem dd_L_law_526 : decode code 526 = .ok (.iconst 1, 1) := by decide +kernel
theorem dd_L_law_527 : decode code 527 = .ok (.iadd, 1) := by decide +kernel
theorem dd_L_law_528 : decode code 528 = .ok (.iaload, 1) := by decide +kernel
theorem dd_L_law_529 : decode code 529 = .ok (.aload_n 0, 1) := by decide +kernel
theorem dd_L_law_530 : decode code 530 = .ok (.iload_n 3, 1) := by decide +kernel
theorem dd_L_law_531 : decode code 531 = .ok (.iconst 2, 1) := by decide +kernel
theorem dd_L_law_532 : decode code 532 = .ok (.iadd, 1) := by decide +kernel
theorem dd_L_law_533 : decode code 533 = .ok (.iaload, 1) := by decide +kernel
theorem dd_L_law_534 : decode code 534 = .ok (.invokevirtual 48, 3) := by decide +kernel
theorem dd_L_law_537 : decode code 537 = .ok (.if_icmp .eq 1194, 3) := by decide +kernel
theorem dd_L_law_542 : decode code 542 = .ok (.aload_n 1, 1) := by decide +kernel
theorem dd_L_law_543 : decode code 543 = .ok (.aload_n 0, 1) := by decide +kernel
theorem dd_L_law_544 : decode code 544 = .ok (.iload_n 3, 1) := by decide +kernel
theorem dd_L_law_545 : decode code 545 = .ok (.iconst 1, 1) := by decide +kernel
theorem dd_L_law_546 : decode code 546 = .ok (.iadd, 1) := by decide +kernel
theorem dd_L_law_547 : decode code 547 = .ok (.iaload, 1) := by decide +kernel
theorem dd_L_law_548 : decode code 548 = .ok (.aload_n 0, 1) := by decide +kernel
theorem dd_L_law_549 : decode code 549 = .ok (.iload_n 3, 1) := by decide +kernel
theorem dd_L_law_550 : decode code 550 = .ok (.iconst 2, 1) := by decide +kernel
theorem dd_L_law_551 : decode code 551 = .ok (.iadd, 1) := by decide +kernel
theorem dd_L_law_552 : decode code 552 = .ok (.iaload, 1) := by decide +kernel
theorem dd_L_law_553 : decode code 553 = .ok (.aload_n 0, 1) := by decide +kernel
theorem dd_L_law_554 : decode code 554 = .ok (.iload_n 3, 1) := by decide +kernel
theorem dd_L_law_555 : decode code 555 = .ok (.iconst 3, 1) := by decide +kernel
theorem dd_L_law_556 : decode code 556 = .ok (.iadd, 1) := by decide +kernel
theorem dd_L_law_557 : decode code 557 = .ok (.iaload, 1) := by decide +kernel
theorem dd_L_law_558 : decode code 558 = .ok (.invokevirtual 49, 3) := by decide +kernel
theorem dd_L_law_561 : decode code 561 = .ok (.aload_n 2, 1) := by decide +kernel
theorem dd_L_law_562 : decode code 562 = .ok (.aload_n 0, 1) := by decide +kernel
theorem dd_L_law_563 : decode code 563 = .ok (.iload_n 3, 1) := by decide +kernel
theorem dd_L_law_564 : decode code 564 = .ok (.iconst 1, 1) := by decide +kernel
theorem dd_L_law_565 : decode code 565 = .ok (.iadd, 1) := by decide +kernel
theorem dd_L_law_566 : decode code 566 = .ok (.iaload, 1) := by decide +kernel
theorem dd_L_law_567 : decode code 567 = .ok (.aload_n 0, 1) := by decide +kernel
theorem dd_L_law_568 : decode code 568 = .ok (.iload_n 3, 1) := by decide +kernel
theorem dd_L_law_569 : decode code 569 = .ok (.iconst 2, 1) := by decide +kernel
theorem dd_L_law_570 : decode code 570 = .ok (.iadd, 1) := by decide +kernel
theorem dd_L_law_571 : decode code 571 = .ok (.iaload, 1) := by decide +kernel
theorem dd_L_law_572 : decode code 572 = .ok (.aload_n 0, 1) := by decide +kernel
theorem dd_L_law_573 : decode code 573 = .ok (.iload_n 3, 1) := by decide +kernel
theorem dd_L_law_574 : decode code 574 = .ok (.iconst 3, 1) := by decide +kernel
theorem dd_L_law_575 : decode code 575 = .ok (.iadd, 1) := by decide +kernel
theorem dd_L_law_576 : decode code 576 = .ok (.iaload, 1) := by decide +kernel
theorem dd_L_law_577 : decode code 577 = .ok (.invokevirtual 52, 3) := by decide +kernel
theorem dd_L_law_580 : decode code 580 = .ok (.if_icmp .eq 1151, 3) := by decide +kernel
theorem dd_L_law_585 : decode code 585 = .ok (.aload_n 1, 1) := by decide +kernel
theorem dd_L_law_586 : decode code 586 = .ok (.aload_n 0, 1) := by decide +kernel
theorem dd_L_law_587 : decode code 587 = .ok (.iload_n 3, 1) := by decide +kernel
theorem dd_L_law_588 : decode code 588 = .ok (.iconst 1, 1) := by decide +kernel
theorem dd_L_law_589 : decode code 589 = .ok (.iadd, 1) := by decide +kernel
theorem dd_L_law_590 : decode code 590 = .ok (.iaload, 1) := by decide +kernel
theorem dd_L_law_591 : decode code 591 = .ok (.aload_n 0, 1) := by decide +kernel
theorem dd_L_law_592 : decode code 592 = .ok (.iload_n 3, 1) := by decide +kernel
theorem dd_L_law_593 : decode code 593 = .ok (.iconst 2, 1) := by decide +kernel
theorem dd_L_law_594 : decode code 594 = .ok (.iadd, 1) := by decide +kernel
theorem dd_L_law_595 : decode code 595 = .ok (.iaload, 1) := by decide +kernel
theorem dd_L_law_596 : decode code 596 = .ok (.aload_n 0, 1) := by decide +kernel
theorem dd_L_law_597 : decode code 597 = .ok (.iload_n 3, 1) := by decide +kernel
theorem dd_L_law_598 : decode code 598 = .ok (.iconst 3, 1) := by decide +kernel
theorem dd_L_law_599 : decode code 599 = .ok (.iadd, 1) := by decide +kernel
theorem dd_L_law_600 : decode code 600 = .ok (.iaload, 1) := by decide +kernel
theorem dd_L_law_601 : decode code 601 = .ok (.invokevirtual 53, 3) := by decide +kernel
theorem dd_L_law_604 : decode code 604 = .ok (.aload_n 2, 1) := by decide +kernel
theorem dd_L_law_605 : decode code 605 = .ok (.aload_n 0, 1) := by decide +kernel
theorem dd_L_law_606 : decode code 606 = .ok (.iload_n 3, 1) := by decide +kernel
theorem dd_L_law_607 : decode code 607 = .ok (.iconst 1, 1) := by decide +kernel
theorem dd_L_law_608 : decode code 608 = .ok (.iadd, 1) := by decide +kernel
theorem dd_L_law_609 : decode code 609 = .ok (.iaload, 1) := by decide +kernel
theorem dd_L_law_610 : decode code 610 = .ok (.aload_n 0, 1) := by decide +kernel
theorem dd_L_law_611 : decode code 611 = .ok (.iload_n 3, 1) := by decide +kernel
theorem dd_L_law_612 : decode code 612 = .ok (.iconst 2, 1) := by decide +kernel
theorem dd_L_law_613 : decode code 613 = .ok (.iadd, 1) := by decide +kernel
theorem dd_L_law_614 : decode code 614 = .ok (.iaload, 1) := by decide +kernel
theorem dd_L_law_615 : decode code 615 = .ok (.aload_n 0, 1) := by decide +kernel
theorem dd_L_law_616 : decode code 616 = .ok (.iload_n 3, 1) := by decide +kernel
theorem dd_L_law_617 : decode code 617 = .ok (.iconst 3, 1) := by decide +kernel
theorem dd_L_law_618 : decode code 618 = .ok (.iadd, 1) := by decide +kernel
theorem dd_L_law_619 : decode code 619 = .ok (.iaload, 1) := by decide +kernel
theorem dd_L_law_620 : decode code 620 = .ok (.invokevirtual 56, 3) := by decide +kernel
theorem dd_L_law_623 : decode code 623 = .ok (.if_icmp .eq 1108, 3) := by decide +kernel
theorem dd_L_law_628 : decode code 628 = .ok (.aload_n 1, 1) := by decide +kernel
theorem dd_L_law_629 : decode code 629 = .ok (.aload_n 0, 1) := by decide +kernel
theorem dd_L_law_630 : decode code 630 = .ok (.iload_n 3, 1) := by decide +kernel
theorem dd_L_law_631 : decode code 631 = .ok (.iconst 1, 1) := by decide +kernel
theorem dd_L_law_632 : decode code 632 = .ok (.iadd, 1) := by decide +kernel
theorem dd_L_law_633 : decode code 633 = .ok (.iaload, 1) := by decide +kernel
theorem dd_L_law_634 : decode code 634 = .ok (.aload_n 0, 1) := by decide +kernel
theorem dd_L_law_635 : decode code 635 = .ok (.iload_n 3, 1) := by decide +kernel
theorem dd_L_law_636 : decode code 636 = .ok (.iconst 2, 1) := by decide +kernel
theorem dd_L_law_637 : decode code 637 = .ok (.iadd, 1) := by decide +kernel
theorem dd_L_law_638 : decode code 638 = .ok (.iaload, 1) := by decide +kernel
theorem dd_L_law_639 : decode code 639 = .ok (.invokevirtual 57, 3) := by decide +kernel
theorem dd_L_law_642 : decode code 642 = .ok (.aload_n 2, 1) := by decide +kernel
theorem dd_L_law_643 : decode code 643 = .ok (.aload_n 0, 1) := by decide +kernel
theorem dd_L_law_644 : decode code 644 = .ok (.iload_n 3, 1) := by decide +kernel
theorem dd_L_law_645 : decode code 645 = .ok (.iconst 1, 1) := by decide +kernel
theorem dd_L_law_646 : decode code 646 = .ok (.iadd, 1) := by decide +kernel
theorem dd_L_law_647 : decode code 647 = .ok (.iaload, 1) := by decide +kernel
theorem dd_L_law_648 : decode code 648 = .ok (.aload_n 0, 1) := by decide +kernel
theorem dd_L_law_649 : decode code 649 = .ok (.iload_n 3, 1) := by decide +kernel
theorem dd_L_law_650 : decode code 650 = .ok (.iconst 2, 1) := by decide +kernel
theorem dd_L_law_651 : decode code 651 = .ok (.iadd, 1) := by decide +kernel
theorem dd_L_law_652 : decode code 652 = .ok (.iaload, 1) := by decide +kernel
theorem dd_L_law_653 : decode code 653 = .ok (.invokevirtual 60, 3) := by decide +kernel
theorem dd_L_law_656 : decode code 656 = .ok (.if_icmp .eq 1075, 3) := by decide +kernel
theorem dd_L_law_661 : decode code 661 = .ok (.aload_n 1, 1) := by decide +kernel
theorem dd_L_law_662 : decode code 662 = .ok (.aload_n 0, 1) := by decide +kernel
theorem dd_L_law_663 : decode code 663 = .ok (.iload_n 3, 1) := by decide +kernel
theorem dd_L_law_664 : decode code 664 = .ok (.iconst 1, 1) := by decide +kernel
theorem dd_L_law_665 : decode code 665 = .ok (.iadd, 1) := by decide +kernel
theorem dd_L_law_666 : decode code 666 = .ok (.iaload, 1) := by decide +kernel
theorem dd_L_law_667 : decode code 667 = .ok (.aload_n 0, 1) := by decide +kernel
theorem dd_L_law_668 : decode code 668 = .ok (.iload_n 3, 1) := by decide +kernel
theorem dd_L_law_669 : decode code 669 = .ok (.iconst 2, 1) := by decide +kernel
theorem dd_L_law_670 : decode code 670 = .ok (.iadd, 1) := by decide +kernel
theorem dd_L_law_671 : decode code 671 = .ok (.iaload, 1) := by decide +kernel
theorem dd_L_law_672 : decode code 672 = .ok (.invokevirtual 61, 3) := by decide +kernel
theorem dd_L_law_675 : decode code 675 = .ok (.aload_n 2, 1) := by decide +kernel
theorem dd_L_law_676 : decode code 676 = .ok (.aload_n 0, 1) := by decide +kernel
theorem dd_L_law_677 : decode code 677 = .ok (.iload_n 3, 1) := by decide +kernel
theorem dd_L_law_678 : decode code 678 = .ok (.iconst 1, 1) := by decide +kernel
theorem dd_L_law_679 : decode code 679 = .ok (.iadd, 1) := by decide +kernel
theorem dd_L_law_680 : decode code 680 = .ok (.iaload, 1) := by decide +kernel
theorem dd_L_law_681 : decode code 681 = .ok (.aload_n 0, 1) := by decide +kernel
theorem dd_L_law_682 : decode code 682 = .ok (.iload_n 3, 1) := by decide +kernel
theorem dd_L_law_683 : decode code 683 = .ok (.iconst 2, 1) := by decide +kernel
theorem dd_L_law_684 : decode code 684 = .ok (.iadd, 1) := by decide +kernel
theorem dd_L_law_685 : decode code 685 = .ok (.iaload, 1) := by decide +kernel
theorem dd_L_law_686 : decode code 686 = .ok (.invokevirtual 64, 3) := by decide +kernel
theorem dd_L_law_689 : decode code 689 = .ok (.if_icmp .eq 1042, 3) := by decide +kernel
theorem dd_L_law_694 : decode code 694 = .ok (.aload_n 1, 1) := by decide +kernel
theorem dd_L_law_695 : decode code 695 = .ok (.aload_n 0, 1) := by decide +kernel
theorem dd_L_law_696 : decode code 696 = .ok (.iload_n 3, 1) := by decide +kernel
theorem dd_L_law_697 : decode code 697 = .ok (.iconst 1, 1) := by decide +kernel
theorem dd_L_law_698 : decode code 698 = .ok (.iadd, 1) := by decide +kernel
theorem dd_L_law_699 : decode code 699 = .ok (.iaload, 1) := by decide +kernel
theorem dd_L_law_700 : decode code 700 = .ok (.aload_n 0, 1) := by decide +kernel
theorem dd_L_law_701 : decode code 701 = .ok (.iload_n 3, 1) := by decide +kernel
theorem dd_L_law_702 : decode code 702 = .ok (.iconst 2, 1) := by decide +kernel
theorem dd_L_law_703 : decode code 703 = .ok (.iadd, 1) := by decide +kernel
theorem dd_L_law_704 : decode code 704 = .ok (.iaload, 1) := by decide +kernel
theorem dd_L_law_705 : decode code 705 = .ok (.invokevirtual 65, 3) := by decide +kernel
theorem dd_L_law_708 : decode code 708 = .ok (.aload_n 2, 1) := by decide +kernel
theorem dd_L_law_709 : decode code 709 = .ok (.aload_n 0, 1) := by decide +kernel
theorem dd_L_law_710 : decode code 710 = .ok (.iload_n 3, 1) := by decide +kernel
theorem dd_L_law_711 : decode code 711 = .ok (.iconst 1, 1) := by decide +kernel
theorem dd_L_law_712 : decode code 712 = .ok (.iadd, 1) := by decide +kernel
theorem dd_L_law_713 : decode code 713 = .ok (.iaload, 1) := by decide +kernel
theorem dd_L_law_714 : decode code 714 = .ok (.aload_n 0, 1) := by decide +kernel
theorem dd_L_law_715 : decode code 715 = .ok (.iload_n 3, 1) := by decide +kernel
theorem dd_L_law_716 : decode code 716 = .ok (.iconst 2, 1) := by decide +kernel
theorem dd_L_law_717 : decode code 717 = .ok (.iadd, 1) := by decide +kernel
theorem dd_L_law_718 : decode code 718 = .ok (.iaload, 1) := by decide +kernel
theorem dd_L_law_719 : decode code 719 = .ok (.invokevirtual 68, 3) := by decide +kernel
theorem dd_L_law_722 : decode code 722 = .ok (.if_icmp .eq 1009, 3) := by decide +kernel
theorem dd_L_law_727 : decode code 727 = .ok (.aload_n 1, 1) := by decide +kernel
theorem dd_L_law_728 : decode code 728 = .ok (.aload_n 0, 1) := by decide +kernel
theorem dd_L_law_729 : decode code 729 = .ok (.iload_n 3, 1) := by decide +kernel
theorem dd_L_law_730 : decode code 730 = .ok (.iconst 1, 1) := by decide +kernel
theorem dd_L_law_731 : decode code 731 = .ok (.iadd, 1) := by decide +kernel
theorem dd_L_law_732 : decode code 732 = .ok (.iaload, 1) := by decide +kernel
theorem dd_L_law_733 : decode code 733 = .ok (.aload_n 0, 1) := by decide +kernel
theorem dd_L_law_734 : decode code 734 = .ok (.iload_n 3, 1) := by decide +kernel
theorem dd_L_law_735 : decode code 735 = .ok (.iconst 2, 1) := by decide +kernel
theorem dd_L_law_736 : decode code 736 = .ok (.iadd, 1) := by decide +kernel
theorem dd_L_law_737 : decode code 737 = .ok (.iaload, 1) := by decide +kernel
theorem dd_L_law_738 : decode code 738 = .ok (.invokevirtual 69, 3) := by decide +kernel
theorem dd_L_law_741 : decode code 741 = .ok (.aload_n 2, 1) := by decide +kernel
theorem dd_L_law_742 : decode code 742 = .ok (.aload_n 0, 1) := by decide +kernel
theorem dd_L_law_743 : decode code 743 = .ok (.iload_n 3, 1) := by decide +kernel
theorem dd_L_law_744 : decode code 744 = .ok (.iconst 1, 1) := by decide +kernel
theorem dd_L_law_745 : decode code 745 = .ok (.iadd, 1) := by decide +kernel
theorem dd_L_law_746 : decode code 746 = .ok (.iaload, 1) := by decide +kernel
theorem dd_L_law_747 : decode code 747 = .ok (.aload_n 0, 1) := by decide +kernel
theorem dd_L_law_748 : decode code 748 = .ok (.iload_n 3, 1) := by decide +kernel
theorem dd_L_law_749 : decode code 749 = .ok (.iconst 2, 1) := by decide +kernel
theorem dd_L_law_750 : decode code 750 = .ok (.iadd, 1) := by decide +kernel
theorem dd_L_law_751 : decode code 751 = .ok (.iaload, 1) := by decide +kernel
theorem dd_L_law_752 : decode code 752 = .ok (.invokevirtual 72, 3) := by decide +kernel
theorem dd_L_law_755 : decode code 755 = .ok (.if_icmp .eq 976, 3) := by decide +kernel
theorem dd_L_law_760 : decode code 760 = .ok (.aload_n 1, 1) := by decide +kernel
theorem dd_L_law_761 : decode code 761 = .ok (.aload_n 0, 1) := by decide +kernel
theorem dd_L_law_762 : decode code 762 = .ok (.iload_n 3, 1) := by decide +kernel
theorem dd_L_law_763 : decode code 763 = .ok (.iconst 1, 1) := by decide +kernel
theorem dd_L_law_764 : decode code 764 = .ok (.iadd, 1) := by decide +kernel
theorem dd_L_law_765 : decode code 765 = .ok (.iaload, 1) := by decide +kernel
theorem dd_L_law_766 : decode code 766 = .ok (.aload_n 0, 1) := by decide +kernel
theorem dd_L_law_767 : decode code 767 = .ok (.iload_n 3, 1) := by decide +kernel
theorem dd_L_law_768 : decode code 768 = .ok (.iconst 2, 1) := by decide +kernel
theorem dd_L_law_769 : decode code 769 = .ok (.iadd, 1) := by decide +kernel
theorem dd_L_law_770 : decode code 770 = .ok (.iaload, 1) := by decide +kernel
theorem dd_L_law_771 : decode code 771 = .ok (.invokevirtual 73, 3) := by decide +kernel
theorem dd_L_law_774 : decode code 774 = .ok (.aload_n 2, 1) := by decide +kernel
theorem dd_L_law_775 : decode code 775 = .ok (.aload_n 0, 1) := by decide +kernel
theorem dd_L_law_776 : decode code 776 = .ok (.iload_n 3, 1) := by decide +kernel
theorem dd_L_law_777 : decode code 777 = .ok (.iconst 1, 1) := by decide +kernel
theorem dd_L_law_778 : decode code 778 = .ok (.iadd, 1) := by decide +kernel
theorem dd_L_law_779 : decode code 779 = .ok (.iaload, 1) := by decide +kernel
theorem dd_L_law_780 : decode code 780 = .ok (.aload_n 0, 1) := by decide +kernel
theorem dd_L_law_781 : decode code 781 = .ok (.iload_n 3, 1) := by decide +kernel
theorem dd_L_law_782 : decode code 782 = .ok (.iconst 2, 1) := by decide +kernel
theorem dd_L_law_783 : decode code 783 = .ok (.iadd, 1) := by decide +kernel
theorem dd_L_law_784 : decode code 784 = .ok (.iaload, 1) := by decide +kernel
theorem dd_L_law_785 : decode code 785 = .ok (.invokevirtual 76, 3) := by decide +kernel
theorem dd_L_law_788 : decode code 788 = .ok (.if_icmp .eq 943, 3) := by decide +kernel
theorem dd_L_law_793 : decode code 793 = .ok (.aload_n 1, 1) := by decide +kernel
theorem dd_L_law_794 : decode code 794 = .ok (.invokevirtual 77, 3) := by decide +kernel
theorem dd_L_law_797 : decode code 797 = .ok (.aload_n 2, 1) := by decide +kernel
theorem dd_L_law_798 : decode code 798 = .ok (.invokevirtual 81, 3) := by decide +kernel
theorem dd_L_law_801 : decode code 801 = .ok (.if_icmp .eq 930, 3) := by decide +kernel
theorem dd_L_law_806 : decode code 806 = .ok (.aload_n 1, 1) := by decide +kernel
theorem dd_L_law_807 : decode code 807 = .ok (.invokevirtual 82, 3) := by decide +kernel
theorem dd_L_law_810 : decode code 810 = .ok (.aload_n 2, 1) := by decide +kernel
theorem dd_L_law_811 : decode code 811 = .ok (.invokevirtual 85, 3) := by decide +kernel
theorem dd_L_law_814 : decode code 814 = .ok (.if_icmp .eq 917, 3) := by decide +kernel
theorem dd_L_law_819 : decode code 819 = .ok (.aload_n 1, 1) := by decide +kernel
theorem dd_L_law_820 : decode code 820 = .ok (.aload_n 0, 1) := by decide +kernel
theorem dd_L_law_821 : decode code 821 = .ok (.iload_n 3, 1) := by decide +kernel
theorem dd_L_law_822 : decode code 822 = .ok (.iconst 1, 1) := by decide +kernel
theorem dd_L_law_823 : decode code 823 = .ok (.iadd, 1) := by decide +kernel
theorem dd_L_law_824 : decode code 824 = .ok (.iaload, 1) := by decide +kernel
theorem dd_L_law_825 : decode code 825 = .ok (.aload_n 0, 1) := by decide +kernel
theorem dd_L_law_826 : decode code 826 = .ok (.iload_n 3, 1) := by decide +kernel
theorem dd_L_law_827 : decode code 827 = .ok (.iconst 2, 1) := by decide +kernel
theorem dd_L_law_828 : decode code 828 = .ok (.iadd, 1) := by decide +kernel
theorem dd_L_law_829 : decode code 829 = .ok (.iaload, 1) := by decide +kernel
theorem dd_L_law_830 : decode code 830 = .ok (.invokevirtual 86, 3) := by decide +kernel
theorem dd_L_law_833 : decode code 833 = .ok (.aload_n 2, 1) := by decide +kernel
theorem dd_L_law_834 : decode code 834 = .ok (.aload_n 0, 1) := by decide +kernel
theorem dd_L_law_835 : decode code 835 = .ok (.iload_n 3, 1) := by decide +kernel
theorem dd_L_law_836 : decode code 836 = .ok (.iconst 1, 1) := by decide +kernel
theorem dd_L_law_837 : decode code 837 = .ok (.iadd, 1) := by decide +kernel
theorem dd_L_law_838 : decode code 838 = .ok (.iaload, 1) := by decide +kernel
theorem dd_L_law_839 : decode code 839 = .ok (.aload_n 0, 1) := by decide +kernel
theorem dd_L_law_840 : decode code 840 = .ok (.iload_n 3, 1) := by decide +kernel
theorem dd_L_law_841 : decode code 841 = .ok (.iconst 2, 1) := by decide +kernel
theorem dd_L_law_842 : decode code 842 = .ok (.iadd, 1) := by decide +kernel
theorem dd_L_law_843 : decode code 843 = .ok (.iaload, 1) := by decide +kernel
theorem dd_L_law_844 : decode code 844 = .ok (.invokevirtual 89, 3) := by decide +kernel
theorem dd_L_law_847 : decode code 847 = .ok (.if_icmp .eq 884, 3) := by decide +kernel
theorem dd_L_law_852 : decode code 852 = .ok (.aload_n 1, 1) := by decide +kernel
theorem dd_L_law_853 : decode code 853 = .ok (.aload_n 0, 1) := by decide +kernel
theorem dd_L_law_854 : decode code 854 = .ok (.iload_n 3, 1) := by decide +kernel
theorem dd_L_law_855 : decode code 855 = .ok (.iconst 1, 1) := by decide +kernel
theorem dd_L_law_856 : decode code 856 = .ok (.iadd, 1) := by decide +kernel
theorem dd_L_law_857 : decode code 857 = .ok (.iaload, 1) := by decide +kernel
theorem dd_L_law_858 : decode code 858 = .ok (.aload_n 0, 1) := by decide +kernel
theorem dd_L_law_859 : decode code 859 = .ok (.iload_n 3, 1) := by decide +kernel
theorem dd_L_law_860 : decode code 860 = .ok (.iconst 2, 1) := by decide +kernel
theorem dd_L_law_861 : decode code 861 = .ok (.iadd, 1) := by decide +kernel
theorem dd_L_law_862 : decode code 862 = .ok (.iaload, 1) := by decide +kernel
theorem dd_L_law_863 : decode code 863 = .ok (.aload_n 0, 1) := by decide +kernel
theorem dd_L_law_864 : decode code 864 = .ok (.iload_n 3, 1) := by decide +kernel
theorem dd_L_law_865 : decode code 865 = .ok (.iconst 3, 1) := by decide +kernel
theorem dd_L_law_866 : decode code 866 = .ok (.iadd, 1) := by decide +kernel
theorem dd_L_law_867 : decode code 867 = .ok (.iaload, 1) := by decide +kernel
theorem dd_L_law_868 : decode code 868 = .ok (.ifCond .eq 7, 3) := by decide +kernel
theorem dd_L_law_871 : decode code 871 = .ok (.iconst 1, 1) := by decide +kernel
theorem dd_L_law_872 : decode code 872 = .ok (.goto 4, 3) := by decide +kernel
theorem dd_L_law_875 : decode code 875 = .ok (.iconst 0, 1) := by decide +kernel
theorem dd_L_law_876 : decode code 876 = .ok (.invokevirtual 90, 3) := by decide +kernel
theorem dd_L_law_879 : decode code 879 = .ok (.aload_n 2, 1) := by decide +kernel
theorem dd_L_law_880 : decode code 880 = .ok (.aload_n 0, 1) := by decide +kernel
theorem dd_L_law_881 : decode code 881 = .ok (.iload_n 3, 1) := by decide +kernel
theorem dd_L_law_882 : decode code 882 = .ok (.iconst 1, 1) := by decide +kernel
theorem dd_L_law_883 : decode code 883 = .ok (.iadd, 1) := by decide +kernel
theorem dd_L_law_884 : decode code 884 = .ok (.iaload, 1) := by decide +kernel
theorem dd_L_law_885 : decode code 885 = .ok (.aload_n 0, 1) := by decide +kernel
theorem dd_L_law_886 : decode code 886 = .ok (.iload_n 3, 1) := by decide +kernel
theorem dd_L_law_887 : decode code 887 = .ok (.iconst 2, 1) := by decide +kernel
theorem dd_L_law_888 : decode code 888 = .ok (.iadd, 1) := by decide +kernel
theorem dd_L_law_889 : decode code 889 = .ok (.iaload, 1) := by decide +kernel
theorem dd_L_law_890 : decode code 890 = .ok (.aload_n 0, 1) := by decide +kernel
theorem dd_L_law_891 : decode code 891 = .ok (.iload_n 3, 1) := by decide +kernel
theorem dd_L_law_892 : decode code 892 = .ok (.iconst 3, 1) := by decide +kernel
theorem dd_L_law_893 : decode code 893 = .ok (.iadd, 1) := by decide +kernel
theorem dd_L_law_894 : decode code 894 = .ok (.iaload, 1) := by decide +kernel
theorem dd_L_law_895 : decode code 895 = .ok (.ifCond .eq 7, 3) := by decide +kernel
theorem dd_L_law_898 : decode code 898 = .ok (.iconst 1, 1) := by decide +kernel
theorem dd_L_law_899 : decode code 899 = .ok (.goto 4, 3) := by decide +kernel
theorem dd_L_law_902 : decode code 902 = .ok (.iconst 0, 1) := by decide +kernel
theorem dd_L_law_903 : decode code 903 = .ok (.invokevirtual 94, 3) := by decide +kernel
theorem dd_L_law_906 : decode code 906 = .ok (.if_icmp .eq 825, 3) := by decide +kernel
theorem dd_L_law_911 : decode code 911 = .ok (.aload_n 1, 1) := by decide +kernel
theorem dd_L_law_912 : decode code 912 = .ok (.aload_n 0, 1) := by decide +kernel
theorem dd_L_law_913 : decode code 913 = .ok (.iload_n 3, 1) := by decide +kernel
theorem dd_L_law_914 : decode code 914 = .ok (.iconst 1, 1) := by decide +kernel
theorem dd_L_law_915 : decode code 915 = .ok (.iadd, 1) := by decide +kernel
theorem dd_L_law_916 : decode code 916 = .ok (.iaload, 1) := by decide +kernel
theorem dd_L_law_917 : decode code 917 = .ok (.aload_n 0, 1) := by decide +kernel
theorem dd_L_law_918 : decode code 918 = .ok (.iload_n 3, 1) := by decide +kernel
theorem dd_L_law_919 : decode code 919 = .ok (.iconst 2, 1) := by decide +kernel
theorem dd_L_law_920 : decode code 920 = .ok (.iadd, 1) := by decide +kernel
theorem dd_L_law_921 : decode code 921 = .ok (.iaload, 1) := by decide +kernel
theorem dd_L_law_922 : decode code 922 = .ok (.invokevirtual 95, 3) := by decide +kernel
theorem dd_L_law_925 : decode code 925 = .ok (.aload_n 2, 1) := by decide +kernel
theorem dd_L_law_926 : decode code 926 = .ok (.aload_n 0, 1) := by decide +kernel
theorem dd_L_law_927 : decode code 927 = .ok (.iload_n 3, 1) := by decide +kernel
theorem dd_L_law_928 : decode code 928 = .ok (.iconst 1, 1) := by decide +kernel
theorem dd_L_law_929 : decode code 929 = .ok (.iadd, 1) := by decide +kernel
theorem dd_L_law_930 : decode code 930 = .ok (.iaload, 1) := by decide +kernel
theorem dd_L_law_931 : decode code 931 = .ok (.aload_n 0, 1) := by decide +kernel
theorem dd_L_law_932 : decode code 932 = .ok (.iload_n 3, 1) := by decide +kernel
theorem dd_L_law_933 : decode code 933 = .ok (.iconst 2, 1) := by decide +kernel
theorem dd_L_law_934 : decode code 934 = .ok (.iadd, 1) := by decide +kernel
theorem dd_L_law_935 : decode code 935 = .ok (.iaload, 1) := by decide +kernel
theorem dd_L_law_936 : decode code 936 = .ok (.invokevirtual 98, 3) := by decide +kernel
theorem dd_L_law_939 : decode code 939 = .ok (.if_icmp .eq 792, 3) := by decide +kernel
theorem dd_L_law_944 : decode code 944 = .ok (.aload_n 1, 1) := by decide +kernel
theorem dd_L_law_945 : decode code 945 = .ok (.aload_n 0, 1) := by decide +kernel
theorem dd_L_law_946 : decode code 946 = .ok (.iload_n 3, 1) := by decide +kernel
theorem dd_L_law_947 : decode code 947 = .ok (.iconst 1, 1) := by decide +kernel
theorem dd_L_law_948 : decode code 948 = .ok (.iadd, 1) := by decide +kernel
theorem dd_L_law_949 : decode code 949 = .ok (.iaload, 1) := by decide +kernel
theorem dd_L_law_950 : decode code 950 = .ok (.aload_n 0, 1) := by decide +kernel
theorem dd_L_law_951 : decode code 951 = .ok (.iload_n 3, 1) := by decide +kernel
theorem dd_L_law_952 : decode code 952 = .ok (.iconst 2, 1) := by decide +kernel
theorem dd_L_law_953 : decode code 953 = .ok (.iadd, 1) := by decide +kernel
theorem dd_L_law_954 : decode code 954 = .ok (.iaload, 1) := by decide +kernel
theorem dd_L_law_955 : decode code 955 = .ok (.invokevirtual 99, 3) := by decide +kernel
theorem dd_L_law_958 : decode code 958 = .ok (.aload_n 2, 1) := by decide +kernel
theorem dd_L_law_959 : decode code 959 = .ok (.aload_n 0, 1) := by decide +kernel
theorem dd_L_law_960 : decode code 960 = .ok (.iload_n 3, 1) := by decide +kernel
theorem dd_L_law_961 : decode code 961 = .ok (.iconst 1, 1) := by decide +kernel
theorem dd_L_law_962 : decode code 962 = .ok (.iadd, 1) := by decide +kernel
theorem dd_L_law_963 : decode code 963 = .ok (.iaload, 1) := by decide +kernel
theorem dd_L_law_964 : decode code 964 = .ok (.aload_n 0, 1) := by decide +kernel
theorem dd_L_law_965 : decode code 965 = .ok (.iload_n 3, 1) := by decide +kernel
theorem dd_L_law_966 : decode code 966 = .ok (.iconst 2, 1) := by decide +kernel
theorem dd_L_law_967 : decode code 967 = .ok (.iadd, 1) := by decide +kernel
theorem dd_L_law_968 : decode code 968 = .ok (.iaload, 1) := by decide +kernel
theorem dd_L_law_969 : decode code 969 = .ok (.invokevirtual 102, 3) := by decide +kernel
theorem dd_L_law_972 : decode code 972 = .ok (.if_icmp .eq 759, 3) := by decide +kernel
theorem dd_L_law_977 : decode code 977 = .ok (.aload_n 1, 1) := by decide +kernel
theorem dd_L_law_978 : decode code 978 = .ok (.aload_n 0, 1) := by decide +kernel
theorem dd_L_law_979 : decode code 979 = .ok (.iload_n 3, 1) := by decide +kernel
theorem dd_L_law_980 : decode code 980 = .ok (.iconst 1, 1) := by decide +kernel
theorem dd_L_law_981 : decode code 981 = .ok (.iadd, 1) := by decide +kernel
theorem dd_L_law_982 : decode code 982 = .ok (.iaload, 1) := by decide +kernel
theorem dd_L_law_983 : decode code 983 = .ok (.aload_n 0, 1) := by decide +kernel
theorem dd_L_law_984 : decode code 984 = .ok (.iload_n 3, 1) := by decide +kernel
theorem dd_L_law_985 : decode code 985 = .ok (.iconst 2, 1) := by decide +kernel
theorem dd_L_law_986 : decode code 986 = .ok (.iadd, 1) := by decide +kernel
theorem dd_L_law_987 : decode code 987 = .ok (.iaload, 1) := by decide +kernel
theorem dd_L_law_988 : decode code 988 = .ok (.aload_n 0, 1) := by decide +kernel
theorem dd_L_law_989 : decode code 989 = .ok (.iload_n 3, 1) := by decide +kernel
theorem dd_L_law_990 : decode code 990 = .ok (.iconst 3, 1) := by decide +kernel
theorem dd_L_law_991 : decode code 991 = .ok (.iadd, 1) := by decide +kernel
theorem dd_L_law_992 : decode code 992 = .ok (.iaload, 1) := by decide +kernel
theorem dd_L_law_993 : decode code 993 = .ok (.aload_n 0, 1) := by decide +kernel
theorem dd_L_law_994 : decode code 994 = .ok (.iload_n 3, 1) := by decide +kernel
theorem dd_L_law_995 : decode code 995 = .ok (.iconst 4, 1) := by decide +kernel
theorem dd_L_law_996 : decode code 996 = .ok (.iadd, 1) := by decide +kernel
theorem dd_L_law_997 : decode code 997 = .ok (.iaload, 1) := by decide +kernel
theorem dd_L_law_998 : decode code 998 = .ok (.invokevirtual 103, 3) := by decide +kernel
theorem dd_L_law_1001 : decode code 1001 = .ok (.aload_n 2, 1) := by decide +kernel
theorem dd_L_law_1002 : decode code 1002 = .ok (.aload_n 0, 1) := by decide +kernel
theorem dd_L_law_1003 : decode code 1003 = .ok (.iload_n 3, 1) := by decide +kernel
theorem dd_L_law_1004 : decode code 1004 = .ok (.iconst 1, 1) := by decide +kernel
theorem dd_L_law_1005 : decode code 1005 = .ok (.iadd, 1) := by decide +kernel
theorem dd_L_law_1006 : decode code 1006 = .ok (.iaload, 1) := by decide +kernel
theorem dd_L_law_1007 : decode code 1007 = .ok (.aload_n 0, 1) := by decide +kernel
theorem dd_L_law_1008 : decode code 1008 = .ok (.iload_n 3, 1) := by decide +kernel
theorem dd_L_law_1009 : decode code 1009 = .ok (.iconst 2, 1) := by decide +kernel
theorem dd_L_law_1010 : decode code 1010 = .ok (.iadd, 1) := by decide +kernel
theorem dd_L_law_1011 : decode code 1011 = .ok (.iaload, 1) := by decide +kernel
theorem dd_L_law_1012 : decode code 1012 = .ok (.aload_n 0, 1) := by decide +kernel
theorem dd_L_law_1013 : decode code 1013 = .ok (.iload_n 3, 1) := by decide +kernel
theorem dd_L_law_1014 : decode code 1014 = .ok (.iconst 3, 1) := by decide +kernel
theorem dd_L_law_1015 : decode code 1015 = .ok (.iadd, 1) := by decide +kernel
theorem dd_L_law_1016 : decode code 1016 = .ok (.iaload, 1) := by decide +kernel
theorem dd_L_law_1017 : decode code 1017 = .ok (.aload_n 0, 1) := by decide +kernel
theorem dd_L_law_1018 : decode code 1018 = .ok (.iload_n 3, 1) := by decide +kernel
theorem dd_L_law_1019 : decode code 1019 = .ok (.iconst 4, 1) := by decide +kernel
theorem dd_L_law_1020 : decode code 1020 = .ok (.iadd, 1) := by decide +kernel
theorem dd_L_law_1021 : decode code 1021 = .ok (.iaload, 1) := by decide +kernel
theorem dd_L_law_1022 : decode code 1022 = .ok (.invokevirtual 107, 3) := by decide +kernel
theorem dd_L_law_1025 : decode code 1025 = .ok (.if_icmp .eq 706, 3) := by decide +kernel
theorem dd_L_law_1030 : decode code 1030 = .ok (.aload_n 1, 1) := by decide +kernel
theorem dd_L_law_1031 : decode code 1031 = .ok (.aload_n 0, 1) := by decide +kernel
theorem dd_L_law_1032 : decode code 1032 = .ok (.iload_n 3, 1) := by decide +kernel
theorem dd_L_law_1033 : decode code 1033 = .ok (.iconst 1, 1) := by decide +kernel
theorem dd_L_law_1034 : decode code 1034 = .ok (.iadd, 1) := by decide +kernel
theorem dd_L_law_1035 : decode code 1035 = .ok (.iaload, 1) := by decide +kernel
theorem dd_L_law_1036 : decode code 1036 = .ok (.aload_n 0, 1) := by decide +kernel
theorem dd_L_law_1037 : decode code 1037 = .ok (.iload_n 3, 1) := by decide +kernel
theorem dd_L_law_1038 : decode code 1038 = .ok (.iconst 2, 1) := by decide +kernel
theorem dd_L_law_1039 : decode code 1039 = .ok (.iadd, 1) := by decide +kernel
theorem dd_L_law_1040 : decode code 1040 = .ok (.iaload, 1) := by decide +kernel
theorem dd_L_law_1041 : decode code 1041 = .ok (.invokevirtual 108, 3) := by decide +kernel
theorem dd_L_law_1044 : decode code 1044 = .ok (.aload_n 2, 1) := by decide +kernel
theorem dd_L_law_1045 : decode code 1045 = .ok (.aload_n 0, 1) := by decide +kernel
theorem dd_L_law_1046 : decode code 1046 = .ok (.iload_n 3, 1) := by decide +kernel
theorem dd_L_law_1047 : decode code 1047 = .ok (.iconst 1, 1) := by decide +kernel
theorem dd_L_law_1048 : decode code 1048 = .ok (.iadd, 1) := by decide +kernel
theorem dd_L_law_1049 : decode code 1049 = .ok (.iaload, 1) := by decide +kernel
theorem dd_L_law_1050 : decode code 1050 = .ok (.aload_n 0, 1) := by decide +kernel
theorem dd_L_law_1051 : decode code 1051 = .ok (.iload_n 3, 1) := by decide +kernel
theorem dd_L_law_1052 : decode code 1052 = .ok (.iconst 2, 1) := by decide +kernel
theorem dd_L_law_1053 : decode code 1053 = .ok (.iadd, 1) := by decide +kernel
theorem dd_L_law_1054 : decode code 1054 = .ok (.iaload, 1) := by decide +kernel
theorem dd_L_law_1055 : decode code 1055 = .ok (.invokevirtual 111, 3) := by decide +kernel
theorem dd_L_law_1058 : decode code 1058 = .ok (.if_icmp .eq 673, 3) := by decide +kernel
theorem dd_L_law_1063 : decode code 1063 = .ok (.aload_n 1, 1) := by decide +kernel
theorem dd_L_law_1064 : decode code 1064 = .ok (.aload_n 0, 1) := by decide +kernel
theorem dd_L_law_1065 : decode code 1065 = .ok (.iload_n 3, 1) := by decide +kernel
theorem dd_L_law_1066 : decode code 1066 = .ok (.iconst 1, 1) := by decide +kernel
theorem dd_L_law_1067 : decode code 1067 = .ok (.iadd, 1) := by decide +kernel
theorem dd_L_law_1068 : decode code 1068 = .ok (.iaload, 1) := by decide +kernel
theorem dd_L_law_1069 : decode code 1069 = .ok (.aload_n 0, 1) := by decide +kernel
theorem dd_L_law_1070 : decode code 1070 = .ok (.iload_n 3, 1) := by decide +kernel
theorem dd_L_law_1071 : decode code 1071 = .ok (.iconst 2, 1) := by decide +kernel
theorem dd_L_law_1072 : decode code 1072 = .ok (.iadd, 1) := by decide +kernel
theorem dd_L_law_1073 : decode code 1073 = .ok (.iaload, 1) := by decide +kernel
theorem dd_L_law_1074 : decode code 1074 = .ok (.invokevirtual 112, 3) := by decide +kernel
theorem dd_L_law_1077 : decode code 1077 = .ok (.aload_n 2, 1) := by decide +kernel
theorem dd_L_law_1078 : decode code 1078 = .ok (.aload_n 0, 1) := by decide +kernel
theorem dd_L_law_1079 : decode code 1079 = .ok (.iload_n 3, 1) := by decide +kernel
theorem dd_L_law_1080 : decode code 1080 = .ok (.iconst 1, 1) := by decide +kernel
theorem dd_L_law_1081 : decode code 1081 = .ok (.iadd, 1) := by decide +kernel
theorem dd_L_law_1082 : decode code 1082 = .ok (.iaload, 1) := by decide +kernel
theorem dd_L_law_1083 : decode code 1083 = .ok (.aload_n 0, 1) := by decide +kernel
theorem dd_L_law_1084 : decode code 1084 = .ok (.iload_n 3, 1) := by decide +kernel
theorem dd_L_law_1085 : decode code 1085 = .ok (.iconst 2, 1) := by decide +kernel
theorem dd_L_law_1086 : decode code 1086 = .ok (.iadd, 1) := by decide +kernel
theorem dd_L_law_1087 : decode code 1087 = .ok (.iaload, 1) := by decide +kernel
theorem dd_L_law_1088 : decode code 1088 = .ok (.invokevirtual 115, 3) := by decide +kernel
theorem dd_L_law_1091 : decode code 1091 = .ok (.if_icmp .eq 640, 3) := by decide +kernel
theorem dd_L_law_1096 : decode code 1096 = .ok (.aload_n 1, 1) := by decide +kernel
theorem dd_L_law_1097 : decode code 1097 = .ok (.aload_n 0, 1) := by decide +kernel
theorem dd_L_law_1098 : decode code 1098 = .ok (.iload_n 3, 1) := by decide +kernel
theorem dd_L_law_1099 : decode code 1099 = .ok (.iconst 1, 1) := by decide +kernel
theorem dd_L_law_1100 : decode code 1100 = .ok (.iadd, 1) := by decide +kernel
theorem dd_L_law_1101 : decode code 1101 = .ok (.iaload, 1) := by decide +kernel
theorem dd_L_law_1102 : decode code 1102 = .ok (.aload_n 0, 1) := by decide +kernel
theorem dd_L_law_1103 : decode code 1103 = .ok (.iload_n 3, 1) := by decide +kernel
theorem dd_L_law_1104 : decode code 1104 = .ok (.iconst 2, 1) := by decide +kernel
theorem dd_L_law_1105 : decode code 1105 = .ok (.iadd, 1) := by decide +kernel
theorem dd_L_law_1106 : decode code 1106 = .ok (.iaload, 1) := by decide +kernel
theorem dd_L_law_1107 : decode code 1107 = .ok (.invokevirtual 116, 3) := by decide +kernel
theorem dd_L_law_1110 : decode code 1110 = .ok (.aload_n 2, 1) := by decide +kernel
theorem dd_L_law_1111 : decode code 1111 = .ok (.aload_n 0, 1) := by decide +kernel
theorem dd_L_law_1112 : decode code 1112 = .ok (.iload_n 3, 1) := by decide +kernel
theorem dd_L_law_1113 : decode code 1113 = .ok (.iconst 1, 1) := by decide +kernel
theorem dd_L_law_1114 : decode code 1114 = .ok (.iadd, 1) := by decide +kernel
theorem dd_L_law_1115 : decode code 1115 = .ok (.iaload, 1) := by decide +kernel
theorem dd_L_law_1116 : decode code 1116 = .ok (.aload_n 0, 1) := by decide +kernel
theorem dd_L_law_1117 : decode code 1117 = .ok (.iload_n 3, 1) := by decide +kernel
theorem dd_L_law_1118 : decode code 1118 = .ok (.iconst 2, 1) := by decide +kernel
theorem dd_L_law_1119 : decode code 1119 = .ok (.iadd, 1) := by decide +kernel
theorem dd_L_law_1120 : decode code 1120 = .ok (.iaload, 1) := by decide +kernel
theorem dd_L_law_1121 : decode code 1121 = .ok (.invokevirtual 119, 3) := by decide +kernel
theorem dd_L_law_1124 : decode code 1124 = .ok (.if_icmp .eq 607, 3) := by decide +kernel
theorem dd_L_law_1129 : decode code 1129 = .ok (.aload_n 1, 1) := by decide +kernel
theorem dd_L_law_1130 : decode code 1130 = .ok (.aload_n 0, 1) := by decide +kernel
theorem dd_L_law_1131 : decode code 1131 = .ok (.iload_n 3, 1) := by decide +kernel
theorem dd_L_law_1132 : decode code 1132 = .ok (.iconst 1, 1) := by decide +kernel
theorem dd_L_law_1133 : decode code 1133 = .ok (.iadd, 1) := by decide +kernel
theorem dd_L_law_1134 : decode code 1134 = .ok (.iaload, 1) := by decide +kernel
theorem dd_L_law_1135 : decode code 1135 = .ok (.aload_n 0, 1) := by decide +kernel
theorem dd_L_law_1136 : decode code 1136 = .ok (.iload_n 3, 1) := by decide +kernel
theorem dd_L_law_1137 : decode code 1137 = .ok (.iconst 2, 1) := by decide +kernel
theorem dd_L_law_1138 : decode code 1138 = .ok (.iadd, 1) := by decide +kernel
theorem dd_L_law_1139 : decode code 1139 = .ok (.iaload, 1) := by decide +kernel
theorem dd_L_law_1140 : decode code 1140 = .ok (.invokevirtual 120, 3) := by decide +kernel
theorem dd_L_law_1143 : decode code 1143 = .ok (.aload_n 2, 1) := by decide +kernel
theorem dd_L_law_1144 : decode code 1144 = .ok (.aload_n 0, 1) := by decide +kernel
theorem dd_L_law_1145 : decode code 1145 = .ok (.iload_n 3, 1) := by decide +kernel
theorem dd_L_law_1146 : decode code 1146 = .ok (.iconst 1, 1) := by decide +kernel
theorem dd_L_law_1147 : decode code 1147 = .ok (.iadd, 1) := by decide +kernel
theorem dd_L_law_1148 : decode code 1148 = .ok (.iaload, 1) := by decide +kernel
theorem dd_L_law_1149 : decode code 1149 = .ok (.aload_n 0, 1) := by decide +kernel
theorem dd_L_law_1150 : decode code 1150 = .ok (.iload_n 3, 1) := by decide +kernel
theorem dd_L_law_1151 : decode code 1151 = .ok (.iconst 2, 1) := by decide +kernel
theorem dd_L_law_1152 : decode code 1152 = .ok (.iadd, 1) := by decide +kernel
theorem dd_L_law_1153 : decode code 1153 = .ok (.iaload, 1) := by decide +kernel
theorem dd_L_law_1154 : decode code 1154 = .ok (.invokevirtual 123, 3) := by decide +kernel
theorem dd_L_law_1157 : decode code 1157 = .ok (.if_icmp .eq 574, 3) := by decide +kernel
theorem dd_L_law_1162 : decode code 1162 = .ok (.aload_n 1, 1) := by decide +kernel
theorem dd_L_law_1163 : decode code 1163 = .ok (.aload_n 0, 1) := by decide +kernel
theorem dd_L_law_1164 : decode code 1164 = .ok (.iload_n 3, 1) := by decide +kernel
theorem dd_L_law_1165 : decode code 1165 = .ok (.iconst 1, 1) := by decide +kernel
theorem dd_L_law_1166 : decode code 1166 = .ok (.iadd, 1) := by decide +kernel
theorem dd_L_law_1167 : decode code 1167 = .ok (.iaload, 1) := by decide +kernel
theorem dd_L_law_1168 : decode code 1168 = .ok (.aload_n 0, 1) := by decide +kernel
theorem dd_L_law_1169 : decode code 1169 = .ok (.iload_n 3, 1) := by decide +kernel
theorem dd_L_law_1170 : decode code 1170 = .ok (.iconst 2, 1) := by decide +kernel
theorem dd_L_law_1171 : decode code 1171 = .ok (.iadd, 1) := by decide +kernel
theorem dd_L_law_1172 : decode code 1172 = .ok (.iaload, 1) := by decide +kernel
theorem dd_L_law_1173 : decode code 1173 = .ok (.invokevirtual 124, 3) := by decide +kernel
theorem dd_L_law_1176 : decode code 1176 = .ok (.aload_n 2, 1) := by decide +kernel
theorem dd_L_law_1177 : decode code 1177 = .ok (.aload_n 0, 1) := by decide +kernel
theorem dd_L_law_1178 : decode code 1178 = .ok (.iload_n 3, 1) := by decide +kernel
theorem dd_L_law_1179 : decode code 1179 = .ok (.iconst 1, 1) := by decide +kernel
theorem dd_L_law_1180 : decode code 1180 = .ok (.iadd, 1) := by decide +kernel
theorem dd_L_law_1181 : decode code 1181 = .ok (.iaload, 1) := by decide +kernel
theorem dd_L_law_1182 : decode code 1182 = .ok (.aload_n 0, 1) := by decide +kernel
theorem dd_L_law_1183 : decode code 1183 = .ok (.iload_n 3, 1) := by decide +kernel
theorem dd_L_law_1184 : decode code 1184 = .ok (.iconst 2, 1) := by decide +kernel
theorem dd_L_law_1185 : decode code 1185 = .ok (.iadd, 1) := by decide +kernel
theorem dd_L_law_1186 : decode code 1186 = .ok (.iaload, 1) := by decide +kernel
theorem dd_L_law_1187 : decode code 1187 = .ok (.invokevirtual 127, 3) := by decide +kernel
theorem dd_L_law_1190 : decode code 1190 = .ok (.if_icmp .eq 541, 3) := by decide +kernel
theorem dd_L_law_1195 : decode code 1195 = .ok (.aload_n 1, 1) := by decide +kernel
theorem dd_L_law_1196 : decode code 1196 = .ok (.invokevirtual 128, 3) := by decide +kernel
theorem dd_L_law_1199 : decode code 1199 = .ok (.aload_n 2, 1) := by decide +kernel
theorem dd_L_law_1200 : decode code 1200 = .ok (.invokevirtual 131, 3) := by decide +kernel
theorem dd_L_law_1203 : decode code 1203 = .ok (.if_icmp .eq 528, 3) := by decide +kernel
theorem dd_L_law_1208 : decode code 1208 = .ok (.aload_n 1, 1) := by decide +kernel
theorem dd_L_law_1209 : decode code 1209 = .ok (.aload_n 0, 1) := by decide +kernel
theorem dd_L_law_1210 : decode code 1210 = .ok (.iload_n 3, 1) := by decide +kernel
theorem dd_L_law_1211 : decode code 1211 = .ok (.iconst 1, 1) := by decide +kernel
theorem dd_L_law_1212 : decode code 1212 = .ok (.iadd, 1) := by decide +kernel
theorem dd_L_law_1213 : decode code 1213 = .ok (.iaload, 1) := by decide +kernel
theorem dd_L_law_1214 : decode code 1214 = .ok (.invokevirtual 132, 3) := by decide +kernel
theorem dd_L_law_1217 : decode code 1217 = .ok (.aload_n 2, 1) := by decide +kernel
theorem dd_L_law_1218 : decode code 1218 = .ok (.aload_n 0, 1) := by decide +kernel
theorem dd_L_law_1219 : decode code 1219 = .ok (.iload_n 3, 1) := by decide +kernel
theorem dd_L_law_1220 : decode code 1220 = .ok (.iconst 1, 1) := by decide +kernel
theorem dd_L_law_1221 : decode code 1221 = .ok (.iadd, 1) := by decide +kernel
theorem dd_L_law_1222 : decode code 1222 = .ok (.iaload, 1) := by decide +kernel
theorem dd_L_law_1223 : decode code 1223 = .ok (.invokevirtual 135, 3) := by decide +kernel
theorem dd_L_law_1226 : decode code 1226 = .ok (.if_icmp .eq 505, 3) := by decide +kernel
theorem dd_L_law_1231 : decode code 1231 = .ok (.aload_n 1, 1) := by decide +kernel
theorem dd_L_law_1232 : decode code 1232 = .ok (.aload_n 0, 1) := by decide +kernel
theorem dd_L_law_1233 : decode code 1233 = .ok (.iload_n 3, 1) := by decide +kernel
theorem dd_L_law_1234 : decode code 1234 = .ok (.iconst 1, 1) := by decide +kernel
theorem dd_L_law_1235 : decode code 1235 = .ok (.iadd, 1) := by decide +kernel
theorem dd_L_law_1236 : decode code 1236 = .ok (.iaload, 1) := by decide +kernel
theorem dd_L_law_1237 : decode code 1237 = .ok (.invokevirtual 136, 3) := by decide +kernel
theorem dd_L_law_1240 : decode code 1240 = .ok (.aload_n 2, 1) := by decide +kernel
theorem dd_L_law_1241 : decode code 1241 = .ok (.aload_n 0, 1) := by decide +kernel
theorem dd_L_law_1242 : decode code 1242 = .ok (.iload_n 3, 1) := by decide +kernel
theorem dd_L_law_1243 : decode code 1243 = .ok (.iconst 1, 1) := by decide +kernel
theorem dd_L_law_1244 : decode code 1244 = .ok (.iadd, 1) := by decide +kernel
theorem dd_L_law_1245 : decode code 1245 = .ok (.iaload, 1) := by decide +kernel
theorem dd_L_law_1246 : decode code 1246 = .ok (.invokevirtual 139, 3) := by decide +kernel
theorem dd_L_law_1249 : decode code 1249 = .ok (.if_icmp .eq 482, 3) := by decide +kernel
theorem dd_L_law_1254 : decode code 1254 = .ok (.aload_n 1, 1) := by decide +kernel
theorem dd_L_law_1255 : decode code 1255 = .ok (.aload_n 0, 1) := by decide +kernel
theorem dd_L_law_1256 : decode code 1256 = .ok (.iload_n 3, 1) := by decide +kernel
theorem dd_L_law_1257 : decode code 1257 = .ok (.iconst 1, 1) := by decide +kernel
theorem dd_L_law_1258 : decode code 1258 = .ok (.iadd, 1) := by decide +kernel
theorem dd_L_law_1259 : decode code 1259 = .ok (.iaload, 1) := by decide +kernel
theorem dd_L_law_1260 : decode code 1260 = .ok (.aload_n 0, 1) := by decide +kernel
theorem dd_L_law_1261 : decode code 1261 = .ok (.iload_n 3, 1) := by decide +kernel
theorem dd_L_law_1262 : decode code 1262 = .ok (.iconst 2, 1) := by decide +kernel
theorem dd_L_law_1263 : decode code 1263 = .ok (.iadd, 1) := by decide +kernel
theorem dd_L_law_1264 : decode code 1264 = .ok (.iaload, 1) := by decide +kernel
theorem dd_L_law_1265 : decode code 1265 = .ok (.invokevirtual 140, 3) := by decide +kernel
theorem dd_L_law_1268 : decode code 1268 = .ok (.aload_n 2, 1) := by decide +kernel
theorem dd_L_law_1269 : decode code 1269 = .ok (.aload_n 0, 1) := by decide +kernel
theorem dd_L_law_1270 : decode code 1270 = .ok (.iload_n 3, 1) := by decide +kernel
theorem dd_L_law_1271 : decode code 1271 = .ok (.iconst 1, 1) := by decide +kernel
theorem dd_L_law_1272 : decode code 1272 = .ok (.iadd, 1) := by decide +kernel
theorem dd_L_law_1273 : decode code 1273 = .ok (.iaload, 1) := by decide +kernel
theorem dd_L_law_1274 : decode code 1274 = .ok (.aload_n 0, 1) := by decide +kernel
theorem dd_L_law_1275 : decode code 1275 = .ok (.iload_n 3, 1) := by decide +kernel
theorem dd_L_law_1276 : decode code 1276 = .ok (.iconst 2, 1) := by decide +kernel
theorem dd_L_law_1277 : decode code 1277 = .ok (.iadd, 1) := by decide +kernel
theorem dd_L_law_1278 : decode code 1278 = .ok (.iaload, 1) := by decide +kernel
theorem dd_L_law_1279 : decode code 1279 = .ok (.invokevirtual 143, 3) := by decide +kernel
theorem dd_L_law_1282 : decode code 1282 = .ok (.if_icmp .eq 449, 3) := by decide +kernel
theorem dd_L_law_1287 : decode code 1287 = .ok (.aload_n 1, 1) := by decide +kernel
theorem dd_L_law_1288 : decode code 1288 = .ok (.aload_n 0, 1) := by decide +kernel
theorem dd_L_law_1289 : decode code 1289 = .ok (.iload_n 3, 1) := by decide +kernel
theorem dd_L_law_1290 : decode code 1290 = .ok (.iconst 1, 1) := by decide +kernel
theorem dd_L_law_1291 : decode code 1291 = .ok (.iadd, 1) := by decide +kernel
theorem dd_L_law_1292 : decode code 1292 = .ok (.iaload, 1) := by decide +kernel
theorem dd_L_law_1293 : decode code 1293 = .ok (.invokevirtual 144, 3) := by decide +kernel
theorem dd_L_law_1296 : decode code 1296 = .ok (.aload_n 2, 1) := by decide +kernel
theorem dd_L_law_1297 : decode code 1297 = .ok (.aload_n 0, 1) := by decide +kernel
theorem dd_L_law_1298 : decode code 1298 = .ok (.iload_n 3, 1) := by decide +kernel
theorem dd_L_law_1299 : decode code 1299 = .ok (.iconst 1, 1) := by decide +kernel
theorem dd_L_law_1300 : decode code 1300 = .ok (.iadd, 1) := by decide +kernel
theorem dd_L_law_1301 : decode code 1301 = .ok (.iaload, 1) := by decide +kernel
theorem dd_L_law_1302 : decode code 1302 = .ok (.invokevirtual 147, 3) := by decide +kernel
theorem dd_L_law_1305 : decode code 1305 = .ok (.if_icmp .eq 426, 3) := by decide +kernel
theorem dd_L_law_1310 : decode code 1310 = .ok (.aload_n 1, 1) := by decide +kernel
theorem dd_L_law_1311 : decode code 1311 = .ok (.aload_n 0, 1) := by decide +kernel
theorem dd_L_law_1312 : decode code 1312 = .ok (.iload_n 3, 1) := by decide +kernel
theorem dd_L_law_1313 : decode code 1313 = .ok (.iconst 1, 1) := by decide +kernel
theorem dd_L_law_1314 : decode code 1314 = .ok (.iadd, 1) := by decide +kernel
theorem dd_L_law_1315 : decode code 1315 = .ok (.iaload, 1) := by decide +kernel
theorem dd_L_law_1316 : decode code 1316 = .ok (.invokevirtual 148, 3) := by decide +kernel
theorem dd_L_law_1319 : decode code 1319 = .ok (.aload_n 2, 1) := by decide +kernel
theorem dd_L_law_1320 : decode code 1320 = .ok (.aload_n 0, 1) := by decide +kernel
theorem dd_L_law_1321 : decode code 1321 = .ok (.iload_n 3, 1) := by decide +kernel
theorem dd_L_law_1322 : decode code 1322 = .ok (.iconst 1, 1) := by decide +kernel
theorem dd_L_law_1323 : decode code 1323 = .ok (.iadd, 1) := by decide +kernel
theorem dd_L_law_1324 : decode code 1324 = .ok (.iaload, 1) := by decide +kernel
theorem dd_L_law_1325 : decode code 1325 = .ok (.invokevirtual 151, 3) := by decide +kernel
theorem dd_L_law_1328 : decode code 1328 = .ok (.if_icmp .eq 403, 3) := by decide +kernel
theorem dd_L_law_1333 : decode code 1333 = .ok (.aload_n 1, 1) := by decide +kernel
theorem dd_L_law_1334 : decode code 1334 = .ok (.invokevirtual 152, 3) := by decide +kernel
theorem dd_L_law_1337 : decode code 1337 = .ok (.aload_n 2, 1) := by decide +kernel
theorem dd_L_law_1338 : decode code 1338 = .ok (.invokevirtual 155, 3) := by decide +kernel
theorem dd_L_law_1341 : decode code 1341 = .ok (.if_icmp .eq 390, 3) := by decide +kernel
theorem dd_L_law_1346 : decode code 1346 = .ok (.aload_n 1, 1) := by decide +kernel
theorem dd_L_law_1347 : decode code 1347 = .ok (.aload_n 0, 1) := by decide +kernel
theorem dd_L_law_1348 : decode code 1348 = .ok (.iload_n 3, 1) := by decide +kernel
theorem dd_L_law_1349 : decode code 1349 = .ok (.iconst 1, 1) := by decide +kernel
theorem dd_L_law_1350 : decode code 1350 = .ok (.iadd, 1) := by decide +kernel
theorem dd_L_law_1351 : decode code 1351 = .ok (.iaload, 1) := by decide +kernel
theorem dd_L_law_1352 : decode code 1352 = .ok (.invokevirtual 156, 3) := by decide +kernel
theorem dd_L_law_1355 : decode code 1355 = .ok (.aload_n 2, 1) := by decide +kernel
theorem dd_L_law_1356 : decode code 1356 = .ok (.aload_n 0, 1) := by decide +kernel
theorem dd_L_law_1357 : decode code 1357 = .ok (.iload_n 3, 1) := by decide +kernel
theorem dd_L_law_1358 : decode code 1358 = .ok (.iconst 1, 1) := by decide +kernel
theorem dd_L_law_1359 : decode code 1359 = .ok (.iadd, 1) := by decide +kernel
theorem dd_L_law_1360 : decode code 1360 = .ok (.iaload, 1) := by decide +kernel
theorem dd_L_law_1361 : decode code 1361 = .ok (.invokevirtual 159, 3) := by decide +kernel
theorem dd_L_law_1364 : decode code 1364 = .ok (.if_icmp .eq 367, 3) := by decide +kernel
theorem dd_L_law_1369 : decode code 1369 = .ok (.aload_n 1, 1) := by decide +kernel
theorem dd_L_law_1370 : decode code 1370 = .ok (.aload_n 0, 1) := by decide +kernel
theorem dd_L_law_1371 : decode code 1371 = .ok (.iload_n 3, 1) := by decide +kernel
theorem dd_L_law_1372 : decode code 1372 = .ok (.iconst 1, 1) := by decide +kernel
theorem dd_L_law_1373 : decode code 1373 = .ok (.iadd, 1) := by decide +kernel
theorem dd_L_law_1374 : decode code 1374 = .ok (.iaload, 1) := by decide +kernel
theorem dd_L_law_1375 : decode code 1375 = .ok (.invokevirtual 160, 3) := by decide +kernel
theorem dd_L_law_1378 : decode code 1378 = .ok (.aload_n 2, 1) := by decide +kernel
theorem dd_L_law_1379 : decode code 1379 = .ok (.aload_n 0, 1) := by decide +kernel
theorem dd_L_law_1380 : decode code 1380 = .ok (.iload_n 3, 1) := by decide +kernel
theorem dd_L_law_1381 : decode code 1381 = .ok (.iconst 1, 1) := by decide +kernel
theorem dd_L_law_1382 : decode code 1382 = .ok (.iadd, 1) := by decide +kernel
theorem dd_L_law_1383 : decode code 1383 = .ok (.iaload, 1) := by decide +kernel
theorem dd_L_law_1384 : decode code 1384 = .ok (.invokevirtual 163, 3) := by decide +kernel
theorem dd_L_law_1387 : decode code 1387 = .ok (.if_icmp .eq 344, 3) := by decide +kernel
theorem dd_L_law_1392 : decode code 1392 = .ok (.aload_n 1, 1) := by decide +kernel
theorem dd_L_law_1393 : decode code 1393 = .ok (.aload_n 0, 1) := by decide +kernel
theorem dd_L_law_1394 : decode code 1394 = .ok (.iload_n 3, 1) := by decide +kernel
theorem dd_L_law_1395 : decode code 1395 = .ok (.iconst 1, 1) := by decide +kernel
theorem dd_L_law_1396 : decode code 1396 = .ok (.iadd, 1) := by decide +kernel
theorem dd_L_law_1397 : decode code 1397 = .ok (.iaload, 1) := by decide +kernel
theorem dd_L_law_1398 : decode code 1398 = .ok (.invokevirtual 164, 3) := by decide +kernel
theorem dd_L_law_1401 : decode code 1401 = .ok (.aload_n 2, 1) := by decide +kernel
theorem dd_L_law_1402 : decode code 1402 = .ok (.aload_n 0, 1) := by decide +kernel
theorem dd_L_law_1403 : decode code 1403 = .ok (.iload_n 3, 1) := by decide +kernel
theorem dd_L_law_1404 : decode code 1404 = .ok (.iconst 1, 1) := by decide +kernel
theorem dd_L_law_1405 : decode code 1405 = .ok (.iadd, 1) := by decide +kernel
theorem dd_L_law_1406 : decode code 1406 = .ok (.iaload, 1) := by decide +kernel
theorem dd_L_law_1407 : decode code 1407 = .ok (.invokevirtual 167, 3) := by decide +kernel
theorem dd_L_law_1410 : decode code 1410 = .ok (.if_icmp .eq 321, 3) := by decide +kernel
theorem dd_L_law_1415 : decode code 1415 = .ok (.aload_n 1, 1) := by decide +kernel
theorem dd_L_law_1416 : decode code 1416 = .ok (.aload_n 0, 1) := by decide +kernel
theorem dd_L_law_1417 : decode code 1417 = .ok (.iload_n 3, 1) := by decide +kernel
theorem dd_L_law_1418 : decode code 1418 = .ok (.iconst 1, 1) := by decide +kernel
theorem dd_L_law_1419 : decode code 1419 = .ok (.iadd, 1) := by decide +kernel
theorem dd_L_law_1420 : decode code 1420 = .ok (.iaload, 1) := by decide +kernel
theorem dd_L_law_1421 : decode code 1421 = .ok (.aload_n 0, 1) := by decide +kernel
theorem dd_L_law_1422 : decode code 1422 = .ok (.iload_n 3, 1) := by decide +kernel
theorem dd_L_law_1423 : decode code 1423 = .ok (.iconst 2, 1) := by decide +kernel
theorem dd_L_law_1424 : decode code 1424 = .ok (.iadd, 1) := by decide +kernel
theorem dd_L_law_1425 : decode code 1425 = .ok (.iaload, 1) := by decide +kernel
theorem dd_L_law_1426 : decode code 1426 = .ok (.aload_n 0, 1) := by decide +kernel
theorem dd_L_law_1427 : decode code 1427 = .ok (.iload_n 3, 1) := by decide +kernel
theorem dd_L_law_1428 : decode code 1428 = .ok (.iconst 3, 1) := by decide +kernel
theorem dd_L_law_1429 : decode code 1429 = .ok (.iadd, 1) := by decide +kernel
theorem dd_L_law_1430 : decode code 1430 = .ok (.iaload, 1) := by decide +kernel
theorem dd_L_law_1431 : decode code 1431 = .ok (.aload_n 0, 1) := by decide +kernel
theorem dd_L_law_1432 : decode code 1432 = .ok (.iload_n 3, 1) := by decide +kernel
theorem dd_L_law_1433 : decode code 1433 = .ok (.iconst 4, 1) := by decide +kernel
theorem dd_L_law_1434 : decode code 1434 = .ok (.iadd, 1) := by decide +kernel
theorem dd_L_law_1435 : decode code 1435 = .ok (.iaload, 1) := by decide +kernel
theorem dd_L_law_1436 : decode code 1436 = .ok (.invokevirtual 168, 3) := by decide +kernel
theorem dd_L_law_1439 : decode code 1439 = .ok (.aload_n 2, 1) := by decide +kernel
theorem dd_L_law_1440 : decode code 1440 = .ok (.aload_n 0, 1) := by decide +kernel
theorem dd_L_law_1441 : decode code 1441 = .ok (.iload_n 3, 1) := by decide +kernel
theorem dd_L_law_1442 : decode code 1442 = .ok (.iconst 1, 1) := by decide +kernel
theorem dd_L_law_1443 : decode code 1443 = .ok (.iadd, 1) := by decide +kernel
theorem dd_L_law_1444 : decode code 1444 = .ok (.iaload, 1) := by decide +kernel
theorem dd_L_law_1445 : decode code 1445 = .ok (.aload_n 0, 1) := by decide +kernel
theorem dd_L_law_1446 : decode code 1446 = .ok (.iload_n 3, 1) := by decide +kernel
theorem dd_L_law_1447 : decode code 1447 = .ok (.iconst 2, 1) := by decide +kernel
theorem dd_L_law_1448 : decode code 1448 = .ok (.iadd, 1) := by decide +kernel
theorem dd_L_law_1449 : decode code 1449 = .ok (.iaload, 1) := by decide +kernel
theorem dd_L_law_1450 : decode code 1450 = .ok (.aload_n 0, 1) := by decide +kernel
theorem dd_L_law_1451 : decode code 1451 = .ok (.iload_n 3, 1) := by decide +kernel
theorem dd_L_law_1452 : decode code 1452 = .ok (.iconst 3, 1) := by decide +kernel
theorem dd_L_law_1453 : decode code 1453 = .ok (.iadd, 1) := by decide +kernel
theorem dd_L_law_1454 : decode code 1454 = .ok (.iaload, 1) := by decide +kernel
theorem dd_L_law_1455 : decode code 1455 = .ok (.aload_n 0, 1) := by decide +kernel
theorem dd_L_law_1456 : decode code 1456 = .ok (.iload_n 3, 1) := by decide +kernel
theorem dd_L_law_1457 : decode code 1457 = .ok (.iconst 4, 1) := by decide +kernel
theorem dd_L_law_1458 : decode code 1458 = .ok (.iadd, 1) := by decide +kernel
theorem dd_L_law_1459 : decode code 1459 = .ok (.iaload, 1) := by decide +kernel
theorem dd_L_law_1460 : decode code 1460 = .ok (.invokevirtual 171, 3) := by decide +kernel
theorem dd_L_law_1463 : decode code 1463 = .ok (.if_icmp .eq 268, 3) := by decide +kernel
theorem dd_L_law_1468 : decode code 1468 = .ok (.aload_n 1, 1) := by decide +kernel
theorem dd_L_law_1469 : decode code 1469 = .ok (.aload_n 0, 1) := by decide +kernel
theorem dd_L_law_1470 : decode code 1470 = .ok (.iload_n 3, 1) := by decide +kernel
theorem dd_L_law_1471 : decode code 1471 = .ok (.iconst 1, 1) := by decide +kernel
theorem dd_L_law_1472 : decode code 1472 = .ok (.iadd, 1) := by decide +kernel
theorem dd_L_law_1473 : decode code 1473 = .ok (.iaload, 1) := by decide +kernel
theorem dd_L_law_1474 : decode code 1474 = .ok (.aload_n 0, 1) := by decide +kernel
theorem dd_L_law_1475 : decode code 1475 = .ok (.iload_n 3, 1) := by decide +kernel
theorem dd_L_law_1476 : decode code 1476 = .ok (.iconst 2, 1) := by decide +kernel
theorem dd_L_law_1477 : decode code 1477 = .ok (.iadd, 1) := by decide +kernel
theorem dd_L_law_1478 : decode code 1478 = .ok (.iaload, 1) := by decide +kernel
theorem dd_L_law_1479 : decode code 1479 = .ok (.invokevirtual 172, 3) := by decide +kernel
theorem dd_L_law_1482 : decode code 1482 = .ok (.aload_n 2, 1) := by decide +kernel
theorem dd_L_law_1483 : decode code 1483 = .ok (.aload_n 0, 1) := by decide +kernel
theorem dd_L_law_1484 : decode code 1484 = .ok (.iload_n 3, 1) := by decide +kernel
theorem dd_L_law_1485 : decode code 1485 = .ok (.iconst 1, 1) := by decide +kernel
theorem dd_L_law_1486 : decode code 1486 = .ok (.iadd, 1) := by decide +kernel
theorem dd_L_law_1487 : decode code 1487 = .ok (.iaload, 1) := by decide +kernel
theorem dd_L_law_1488 : decode code 1488 = .ok (.aload_n 0, 1) := by decide +kernel
theorem dd_L_law_1489 : decode code 1489 = .ok (.iload_n 3, 1) := by decide +kernel
theorem dd_L_law_1490 : decode code 1490 = .ok (.iconst 2, 1) := by decide +kernel
theorem dd_L_law_1491 : decode code 1491 = .ok (.iadd, 1) := by decide +kernel
theorem dd_L_law_1492 : decode code 1492 = .ok (.iaload, 1) := by decide +kernel
theorem dd_L_law_1493 : decode code 1493 = .ok (.invokevirtual 175, 3) := by decide +kernel
theorem dd_L_law_1496 : decode code 1496 = .ok (.if_icmp .eq 235, 3) := by decide +kernel
theorem dd_L_law_1501 : decode code 1501 = .ok (.aload_n 1, 1) := by decide +kernel
theorem dd_L_law_1502 : decode code 1502 = .ok (.invokevirtual 176, 3) := by decide +kernel
theorem dd_L_law_1505 : decode code 1505 = .ok (.aload_n 2, 1) := by decide +kernel
theorem dd_L_law_1506 : decode code 1506 = .ok (.invokevirtual 179, 3) := by decide +kernel
theorem dd_L_law_1509 : decode code 1509 = .ok (.if_icmp .eq 222, 3) := by decide +kernel
theorem dd_L_law_1514 : decode code 1514 = .ok (.aload_n 1, 1) := by decide +kernel
theorem dd_L_law_1515 : decode code 1515 = .ok (.invokevirtual 180, 3) := by decide +kernel
theorem dd_L_law_1518 : decode code 1518 = .ok (.aload_n 2, 1) := by decide +kernel
theorem dd_L_law_1519 : decode code 1519 = .ok (.invokevirtual 183, 3) := by decide +kernel
theorem dd_L_law_1522 : decode code 1522 = .ok (.if_icmp .eq 209, 3) := by decide +kernel
theorem dd_L_law_1527 : decode code 1527 = .ok (.aload_n 1, 1) := by decide +kernel
theorem dd_L_law_1528 : decode code 1528 = .ok (.aload_n 0, 1) := by decide +kernel
theorem dd_L_law_1529 : decode code 1529 = .ok (.iload_n 3, 1) := by decide +kernel
theorem dd_L_law_1530 : decode code 1530 = .ok (.iconst 1, 1) := by decide +kernel
theorem dd_L_law_1531 : decode code 1531 = .ok (.iadd, 1) := by decide +kernel
theorem dd_L_law_1532 : decode code 1532 = .ok (.iaload, 1) := by decide +kernel
theorem dd_L_law_1533 : decode code 1533 = .ok (.aload_n 0, 1) := by decide +kernel
theorem dd_L_law_1534 : decode code 1534 = .ok (.iload_n 3, 1) := by decide +kernel
theorem dd_L_law_1535 : decode code 1535 = .ok (.iconst 2, 1) := by decide +kernel
theorem dd_L_law_1536 : decode code 1536 = .ok (.iadd, 1) := by decide +kernel
theorem dd_L_law_1537 : decode code 1537 = .ok (.iaload, 1) := by decide +kernel
theorem dd_L_law_1538 : decode code 1538 = .ok (.invokevirtual 184, 3) := by decide +kernel
theorem dd_L_law_1541 : decode code 1541 = .ok (.aload_n 2, 1) := by decide +kernel
theorem dd_L_law_1542 : decode code 1542 = .ok (.aload_n 0, 1) := by decide +kernel
theorem dd_L_law_1543 : decode code 1543 = .ok (.iload_n 3, 1) := by decide +kernel
theorem dd_L_law_1544 : decode code 1544 = .ok (.iconst 1, 1) := by decide +kernel
theorem dd_L_law_1545 : decode code 1545 = .ok (.iadd, 1) := by decide +kernel
theorem dd_L_law_1546 : decode code 1546 = .ok (.iaload, 1) := by decide +kernel
theorem dd_L_law_1547 : decode code 1547 = .ok (.aload_n 0, 1) := by decide +kernel
theorem dd_L_law_1548 : decode code 1548 = .ok (.iload_n 3, 1) := by decide +kernel
theorem dd_L_law_1549 : decode code 1549 = .ok (.iconst 2, 1) := by decide +kernel
theorem dd_L_law_1550 : decode code 1550 = .ok (.iadd, 1) := by decide +kernel
theorem dd_L_law_1551 : decode code 1551 = .ok (.iaload, 1) := by decide +kernel
theorem dd_L_law_1552 : decode code 1552 = .ok (.invokevirtual 187, 3) := by decide +kernel
theorem dd_L_law_1555 : decode code 1555 = .ok (.if_icmp .eq 176, 3) := by decide +kernel
theorem dd_L_law_1560 : decode code 1560 = .ok (.aload_n 1, 1) := by decide +kernel
theorem dd_L_law_1561 : decode code 1561 = .ok (.aload_n 0, 1) := by decide +kernel
theorem dd_L_law_1562 : decode code 1562 = .ok (.iload_n 3, 1) := by decide +kernel
theorem dd_L_law_1563 : decode code 1563 = .ok (.iconst 1, 1) := by decide +kernel
theorem dd_L_law_1564 : decode code 1564 = .ok (.iadd, 1) := by decide +kernel
theorem dd_L_law_1565 : decode code 1565 = .ok (.iaload, 1) := by decide +kernel
theorem dd_L_law_1566 : decode code 1566 = .ok (.aload_n 0, 1) := by decide +kernel
theorem dd_L_law_1567 : decode code 1567 = .ok (.iload_n 3, 1) := by decide +kernel
theorem dd_L_law_1568 : decode code 1568 = .ok (.iconst 2, 1) := by decide +kernel
theorem dd_L_law_1569 : decode code 1569 = .ok (.iadd, 1) := by decide +kernel
theorem dd_L_law_1570 : decode code 1570 = .ok (.iaload, 1) := by decide +kernel
theorem dd_L_law_1571 : decode code 1571 = .ok (.invokevirtual 188, 3) := by decide +kernel
theorem dd_L_law_1574 : decode code 1574 = .ok (.aload_n 2, 1) := by decide +kernel
theorem dd_L_law_1575 : decode code 1575 = .ok (.aload_n 0, 1) := by decide +kernel
theorem dd_L_law_1576 : decode code 1576 = .ok (.iload_n 3, 1) := by decide +kernel
theorem dd_L_law_1577 : decode code 1577 = .ok (.iconst 1, 1) := by decide +kernel
theorem dd_L_law_1578 : decode code 1578 = .ok (.iadd, 1) := by decide +kernel
theorem dd_L_law_1579 : decode code 1579 = .ok (.iaload, 1) := by decide +kernel
theorem dd_L_law_1580 : decode code 1580 = .ok (.aload_n 0, 1) := by decide +kernel
theorem dd_L_law_1581 : decode code 1581 = .ok (.iload_n 3, 1) := by decide +kernel
theorem dd_L_law_1582 : decode code 1582 = .ok (.iconst 2, 1) := by decide +kernel
theorem dd_L_law_1583 : decode code 1583 = .ok (.iadd, 1) := by decide +kernel
theorem dd_L_law_1584 : decode code 1584 = .ok (.iaload, 1) := by decide +kernel
theorem dd_L_law_1585 : decode code 1585 = .ok (.invokevirtual 191, 3) := by decide +kernel
theorem dd_L_law_1588 : decode code 1588 = .ok (.if_icmp .eq 143, 3) := by decide +kernel
theorem dd_L_law_1593 : decode code 1593 = .ok (.aload_n 1, 1) := by decide +kernel
theorem dd_L_law_1594 : decode code 1594 = .ok (.aload_n 0, 1) := by decide +kernel
theorem dd_L_law_1595 : decode code 1595 = .ok (.iload_n 3, 1) := by decide +kernel
theorem dd_L_law_1596 : decode code 1596 = .ok (.iconst 1, 1) := by decide +kernel
theorem dd_L_law_1597 : decode code 1597 = .ok (.iadd, 1) := by decide +kernel
theorem dd_L_law_1598 : decode code 1598 = .ok (.iaload, 1) := by decide +kernel
theorem dd_L_law_1599 : decode code 1599 = .ok (.aload_n 0, 1) := by decide +kernel
theorem dd_L_law_1600 : decode code 1600 = .ok (.iload_n 3, 1) := by decide +kernel
theorem dd_L_law_1601 : decode code 1601 = .ok (.iconst 2, 1) := by decide +kernel
theorem dd_L_law_1602 : decode code 1602 = .ok (.iadd, 1) := by decide +kernel
theorem dd_L_law_1603 : decode code 1603 = .ok (.iaload, 1) := by decide +kernel
theorem dd_L_law_1604 : decode code 1604 = .ok (.invokevirtual 192, 3) := by decide +kernel
theorem dd_L_law_1607 : decode code 1607 = .ok (.aload_n 2, 1) := by decide +kernel
theorem dd_L_law_1608 : decode code 1608 = .ok (.aload_n 0, 1) := by decide +kernel
theorem dd_L_law_1609 : decode code 1609 = .ok (.iload_n 3, 1) := by decide +kernel
theorem dd_L_law_1610 : decode code 1610 = .ok (.iconst 1, 1) := by decide +kernel
theorem dd_L_law_1611 : decode code 1611 = .ok (.iadd, 1) := by decide +kernel
theorem dd_L_law_1612 : decode code 1612 = .ok (.iaload, 1) := by decide +kernel
theorem dd_L_law_1613 : decode code 1613 = .ok (.aload_n 0, 1) := by decide +kernel
theorem dd_L_law_1614 : decode code 1614 = .ok (.iload_n 3, 1) := by decide +kernel
theorem dd_L_law_1615 : decode code 1615 = .ok (.iconst 2, 1) := by decide +kernel
theorem dd_L_law_1616 : decode code 1616 = .ok (.iadd, 1) := by decide +kernel
theorem dd_L_law_1617 : decode code 1617 = .ok (.iaload, 1) := by decide +kernel
theorem dd_L_law_1618 : decode code 1618 = .ok (.invokevirtual 195, 3) := by decide +kernel
theorem dd_L_law_1621 : decode code 1621 = .ok (.if_icmp .eq 110, 3) := by decide +kernel
theorem dd_L_law_1626 : decode code 1626 = .ok (.aload_n 1, 1) := by decide +kernel
theorem dd_L_law_1627 : decode code 1627 = .ok (.aload_n 0, 1) := by decide +kernel
theorem dd_L_law_1628 : decode code 1628 = .ok (.iload_n 3, 1) := by decide +kernel
theorem dd_L_law_1629 : decode code 1629 = .ok (.iconst 1, 1) := by decide +kernel
theorem dd_L_law_1630 : decode code 1630 = .ok (.iadd, 1) := by decide +kernel
theorem dd_L_law_1631 : decode code 1631 = .ok (.iaload, 1) := by decide +kernel
theorem dd_L_law_1632 : decode code 1632 = .ok (.invokevirtual 196, 3) := by decide +kernel
theorem dd_L_law_1635 : decode code 1635 = .ok (.aload_n 2, 1) := by decide +kernel
theorem dd_L_law_1636 : decode code 1636 = .ok (.aload_n 0, 1) := by decide +kernel
theorem dd_L_law_1637 : decode code 1637 = .ok (.iload_n 3, 1) := by decide +kernel
theorem dd_L_law_1638 : decode code 1638 = .ok (.iconst 1, 1) := by decide +kernel
theorem dd_L_law_1639 : decode code 1639 = .ok (.iadd, 1) := by decide +kernel
theorem dd_L_law_1640 : decode code 1640 = .ok (.iaload, 1) := by decide +kernel
theorem dd_L_law_1641 : decode code 1641 = .ok (.invokevirtual 199, 3) := by decide +kernel
theorem dd_L_law_1644 : decode code 1644 = .ok (.if_icmp .eq 87, 3) := by decide +kernel
theorem dd_L_law_1649 : decode code 1649 = .ok (.aload_n 1, 1) := by decide +kernel
theorem dd_L_law_1650 : decode code 1650 = .ok (.aload_n 0, 1) := by decide +kernel
theorem dd_L_law_1651 : decode code 1651 = .ok (.iload_n 3, 1) := by decide +kernel
theorem dd_L_law_1652 : decode code 1652 = .ok (.iconst 1, 1) := by decide +kernel
theorem dd_L_law_1653 : decode code 1653 = .ok (.iadd, 1) := by decide +kernel
theorem dd_L_law_1654 : decode code 1654 = .ok (.iaload, 1) := by decide +kernel
theorem dd_L_law_1655 : decode code 1655 = .ok (.aload_n 0, 1) := by decide +kernel
theorem dd_L_law_1656 : decode code 1656 = .ok (.iload_n 3, 1) := by decide +kernel
theorem dd_L_law_1657 : decode code 1657 = .ok (.iconst 2, 1) := by decide +kernel
theorem dd_L_law_1658 : decode code 1658 = .ok (.iadd, 1) := by decide +kernel
theorem dd_L_law_1659 : decode code 1659 = .ok (.iaload, 1) := by decide +kernel
theorem dd_L_law_1660 : decode code 1660 = .ok (.invokevirtual 200, 3) := by decide +kernel
theorem dd_L_law_1663 : decode code 1663 = .ok (.aload_n 2, 1) := by decide +kernel
theorem dd_L_law_1664 : decode code 1664 = .ok (.aload_n 0, 1) := by decide +kernel
theorem dd_L_law_1665 : decode code 1665 = .ok (.iload_n 3, 1) := by decide +kernel
theorem dd_L_law_1666 : decode code 1666 = .ok (.iconst 1, 1) := by decide +kernel
theorem dd_L_law_1667 : decode code 1667 = .ok (.iadd, 1) := by decide +kernel
theorem dd_L_law_1668 : decode code 1668 = .ok (.iaload, 1) := by decide +kernel
theorem dd_L_law_1669 : decode code 1669 = .ok (.aload_n 0, 1) := by decide +kernel
theorem dd_L_law_1670 : decode code 1670 = .ok (.iload_n 3, 1) := by decide +kernel
theorem dd_L_law_1671 : decode code 1671 = .ok (.iconst 2, 1) := by decide +kernel
theorem dd_L_law_1672 : decode code 1672 = .ok (.iadd, 1) := by decide +kernel
theorem dd_L_law_1673 : decode code 1673 = .ok (.iaload, 1) := by decide +kernel
theorem dd_L_law_1674 : decode code 1674 = .ok (.invokevirtual 203, 3) := by decide +kernel
theorem dd_L_law_1677 : decode code 1677 = .ok (.if_icmp .eq 54, 3) := by decide +kernel
theorem dd_L_law_1682 : decode code 1682 = .ok (.aload_n 1, 1) := by decide +kernel
theorem dd_L_law_1683 : decode code 1683 = .ok (.invokevirtual 204, 3) := by decide +kernel
theorem dd_L_law_1686 : decode code 1686 = .ok (.aload_n 2, 1) := by decide +kernel
theorem dd_L_law_1687 : decode code 1687 = .ok (.invokevirtual 207, 3) := by decide +kernel
theorem dd_L_law_1690 : decode code 1690 = .ok (.if_icmp .eq 41, 3) := by decide +kernel
theorem dd_L_law_1695 : decode code 1695 = .ok (.aload_n 1, 1) := by decide +kernel
theorem dd_L_law_1696 : decode code 1696 = .ok (.invokevirtual 208, 3) := by decide +kernel
theorem dd_L_law_1699 : decode code 1699 = .ok (.aload_n 2, 1) := by decide +kernel
theorem dd_L_law_1700 : decode code 1700 = .ok (.invokevirtual 211, 3) := by decide +kernel
theorem dd_L_law_1703 : decode code 1703 = .ok (.if_icmp .eq 28, 3) := by decide +kernel
theorem dd_L_law_1708 : decode code 1708 = .ok (.aload_n 1, 1) := by decide +kernel
theorem dd_L_law_1709 : decode code 1709 = .ok (.aload_n 0, 1) := by decide +kernel
theorem dd_L_law_1710 : decode code 1710 = .ok (.iload_n 3, 1) := by decide +kernel
theorem dd_L_law_1711 : decode code 1711 = .ok (.iconst 1, 1) := by decide +kernel
theorem dd_L_law_1712 : decode code 1712 = .ok (.iadd, 1) := by decide +kernel
theorem dd_L_law_1713 : decode code 1713 = .ok (.iaload, 1) := by decide +kernel
theorem dd_L_law_1714 : decode code 1714 = .ok (.invokevirtual 212, 3) := by decide +kernel
theorem dd_L_law_1717 : decode code 1717 = .ok (.aload_n 2, 1) := by decide +kernel
theorem dd_L_law_1718 : decode code 1718 = .ok (.aload_n 0, 1) := by decide +kernel
theorem dd_L_law_1719 : decode code 1719 = .ok (.iload_n 3, 1) := by decide +kernel
theorem dd_L_law_1720 : decode code 1720 = .ok (.iconst 1, 1) := by decide +kernel
theorem dd_L_law_1721 : decode code 1721 = .ok (.iadd, 1) := by decide +kernel
theorem dd_L_law_1722 : decode code 1722 = .ok (.iaload, 1) := by decide +kernel
theorem dd_L_law_1723 : decode code 1723 = .ok (.invokevirtual 215, 3) := by decide +kernel
theorem dd_L_law_1726 : decode code 1726 = .ok (.if_icmp .eq 5, 3) := by decide +kernel
theorem dd_L_law_1731 : decode code 1731 = .ok (.iinc 3 6, 3) := by decide +kernel
theorem dd_L_law_1734 : decode code 1734 = .ok (.goto (-1716), 3) := by decide +kernel
theorem dd_L_law_1737 : decode code 1737 = .ok (.iconst 1, 1) := by decide +kernel
theorem dd_L_law_1738 : decode code 1738 = .ok (.ireturn, 1) := by decide +kernel
theorem ws_L_9 : WI "WhiteElephantsLaw" 9 my_X11_init mb_X11_init 2 := ⟨kk_24, kk_25, kk_1, kk_26⟩
theorem ws_L_12 : WI "WhiteElephantsLaw" 12 my_X12_init mb_X12_init 2 := ⟨kk_1097, kk_1098, kk_13, kk_1099⟩
theorem ws_L_13 : WV "WhiteElephantsLaw" 13 my_X11_row mb_X11_row 4 ((some .int)) := ⟨kk_407, kk_408, kk_409, kk_1, kk_410⟩
theorem ws_L_17 : WV "WhiteElephantsLaw" 17 my_X12_row mb_X12_row 5 ((some .int)) := ⟨kk_1256, kk_1257, kk_1258, kk_13, kk_1259⟩
theorem ws_L_20 : WV "WhiteElephantsLaw" 20 my_X11_set mb_X11_set 6 ((some .int)) := ⟨kk_428, kk_429, kk_430, kk_1, kk_431⟩
theorem ws_L_24 : WV "WhiteElephantsLaw" 24 my_X12_set mb_X12_set 9 ((some .int)) := ⟨kk_1268, kk_1269, kk_1270, kk_13, kk_1271⟩
theorem ws_L_25 : WV "WhiteElephantsLaw" 25 my_X11_copy mb_X11_copy 8 ((some .int)) := ⟨kk_457, kk_458, kk_459, kk_1, kk_460⟩
theorem ws_L_29 : WV "WhiteElephantsLaw" 29 my_X12_copy mb_X12_copy 7 ((some .int)) := ⟨kk_1280, kk_1281, kk_1282, kk_13, kk_1283⟩
theorem ws_L_30 : WV "WhiteElephantsLaw" 30 my_X11_element mb_X11_element 3 ((some .long)) := ⟨kk_469, kk_470, kk_471, kk_1, kk_472⟩
theorem ws_L_34 : WV "WhiteElephantsLaw" 34 my_X12_element mb_X12_element 3 ((some .long)) := ⟨kk_1288, kk_1289, kk_1290, kk_13, kk_1291⟩
theorem ws_L_35 : WV "WhiteElephantsLaw" 35 my_X11_holds mb_X11_holds 2 ((some .int)) := ⟨kk_477, kk_478, kk_479, kk_1, kk_480⟩
theorem ws_L_39 : WV "WhiteElephantsLaw" 39 my_X12_holds mb_X12_holds 2 ((some .int)) := ⟨kk_1292, kk_1293, kk_1294, kk_13, kk_1295⟩
theorem ws_L_40 : WV "WhiteElephantsLaw" 40 my_X11_show mb_X11_show 3 ((some .int)) := ⟨kk_481, kk_482, kk_483, kk_1, kk_484⟩
theorem ws_L_44 : WV "WhiteElephantsLaw" 44 my_X12_show mb_X12_show 3 ((some .int)) := ⟨kk_1296, kk_1297, kk_1298, kk_13, kk_1299⟩
theorem ws_L_45 : WV "WhiteElephantsLaw" 45 my_X11_says mb_X11_says 5 ((some .int)) := ⟨kk_490, kk_491, kk_492, kk_1, kk_493⟩
theorem ws_L_48 : WV "WhiteElephantsLaw" 48 my_X12_says mb_X12_says 4 ((some .int)) := ⟨kk_1304, kk_1305, kk_1306, kk_13, kk_1307⟩
theorem ws_L_49 : WV "WhiteElephantsLaw" 49 my_X11_thing mb_X11_thing 4 ((some .int)) := ⟨kk_538, kk_539, kk_540, kk_1, kk_541⟩
theorem ws_L_52 : WV "WhiteElephantsLaw" 52 my_X12_thing mb_X12_thing 5 ((some .int)) := ⟨kk_1328, kk_1329, kk_1330, kk_13, kk_1331⟩
theorem ws_L_53 : WV "WhiteElephantsLaw" 53 my_X11_things mb_X11_things 9 ((some .int)) := ⟨kk_546, kk_547, kk_548, kk_1, kk_549⟩
theorem ws_L_56 : WV "WhiteElephantsLaw" 56 my_X12_things mb_X12_things 8 ((some .int)) := ⟨kk_1332, kk_1333, kk_1334, kk_13, kk_1335⟩
theorem ws_L_57 : WV "WhiteElephantsLaw" 57 my_X11_thingOf mb_X11_thingOf 3 ((some .int)) := ⟨kk_551, kk_552, kk_553, kk_1, kk_554⟩
theorem ws_L_60 : WV "WhiteElephantsLaw" 60 my_X12_thingOf mb_X12_thingOf 3 ((some .int)) := ⟨kk_1338, kk_1339, kk_1340, kk_13, kk_1341⟩
theorem ws_L_61 : WV "WhiteElephantsLaw" 61 my_X11_chip mb_X11_chip 3 ((some .int)) := ⟨kk_556, kk_557, kk_558, kk_1, kk_559⟩
theorem ws_L_64 : WV "WhiteElephantsLaw" 64 my_X12_chip mb_X12_chip 3 ((some .int)) := ⟨kk_1342, kk_1343, kk_1344, kk_13, kk_1345⟩
theorem ws_L_65 : WV "WhiteElephantsLaw" 65 my_X11_lady mb_X11_lady 3 ((some .int)) := ⟨kk_561, kk_562, kk_563, kk_1, kk_564⟩
theorem ws_L_68 : WV "WhiteElephantsLaw" 68 my_X12_lady mb_X12_lady 3 ((some .int)) := ⟨kk_1346, kk_1347, kk_1348, kk_13, kk_1349⟩
theorem ws_L_69 : WV "WhiteElephantsLaw" 69 my_X11_goes mb_X11_goes 4 ((some .int)) := ⟨kk_572, kk_573, kk_574, kk_1, kk_575⟩
theorem ws_L_72 : WV "WhiteElephantsLaw" 72 my_X12_goes mb_X12_goes 4 ((some .int)) := ⟨kk_1354, kk_1355, kk_1356, kk_13, kk_1357⟩
theorem ws_L_73 : WV "WhiteElephantsLaw" 73 my_X11_feed mb_X11_feed 3 ((some .int)) := ⟨kk_586, kk_587, kk_588, kk_1, kk_589⟩
theorem ws_L_76 : WV "WhiteElephantsLaw" 76 my_X12_feed mb_X12_feed 4 ((some .int)) := ⟨kk_1366, kk_1367, kk_1368, kk_13, kk_1369⟩
theorem ws_L_77 : WV "WhiteElephantsLaw" 77 my_X11_wipe mb_X11_wipe 2 ((some .int)) := ⟨kk_594, kk_595, kk_596, kk_1, kk_597⟩
theorem ws_L_81 : WV "WhiteElephantsLaw" 81 my_X12_wipe mb_X12_wipe 2 ((some .int)) := ⟨kk_1370, kk_1371, kk_1372, kk_13, kk_1373⟩
theorem ws_L_82 : WV "WhiteElephantsLaw" 82 my_X11_law mb_X11_law 2 ((some .int)) := ⟨kk_598, kk_599, kk_600, kk_1, kk_601⟩
theorem ws_L_85 : WV "WhiteElephantsLaw" 85 my_X12_law mb_X12_law 2 ((some .int)) := ⟨kk_1374, kk_1375, kk_1376, kk_13, kk_1377⟩
theorem ws_L_86 : WV "WhiteElephantsLaw" 86 my_X11_lawOf mb_X11_lawOf 3 ((some .int)) := ⟨kk_699, kk_700, kk_701, kk_1, kk_702⟩
theorem ws_L_89 : WV "WhiteElephantsLaw" 89 my_X12_lawOf mb_X12_lawOf 3 ((some .int)) := ⟨kk_1409, kk_1410, kk_1411, kk_13, kk_1412⟩
theorem ws_L_90 : WV "WhiteElephantsLaw" 90 my_X11_thinks mb_X11_thinks 4 ((some .int)) := ⟨kk_708, kk_709, kk_710, kk_1, kk_711⟩
theorem ws_L_94 : WV "WhiteElephantsLaw" 94 my_X12_thinks mb_X12_thinks 4 ((some .int)) := ⟨kk_1413, kk_1414, kk_1415, kk_13, kk_1416⟩
theorem ws_L_95 : WV "WhiteElephantsLaw" 95 my_X11_price mb_X11_price 3 ((some .int)) := ⟨kk_729, kk_730, kk_731, kk_1, kk_732⟩
theorem ws_L_98 : WV "WhiteElephantsLaw" 98 my_X12_price mb_X12_price 5 ((some .int)) := ⟨kk_1425, kk_1426, kk_1427, kk_13, kk_1428⟩
theorem ws_L_99 : WV "WhiteElephantsLaw" 99 my_X11_mark mb_X11_mark 4 ((some .int)) := ⟨kk_742, kk_743, kk_744, kk_1, kk_745⟩
theorem ws_L_102 : WV "WhiteElephantsLaw" 102 my_X12_mark mb_X12_mark 4 ((some .int)) := ⟨kk_1429, kk_1430, kk_1431, kk_13, kk_1432⟩
theorem ws_L_103 : WV "WhiteElephantsLaw" 103 my_X11_buyer mb_X11_buyer 5 ((some .int)) := ⟨kk_750, kk_751, kk_752, kk_1, kk_753⟩
theorem ws_L_107 : WV "WhiteElephantsLaw" 107 my_X12_buyer mb_X12_buyer 5 ((some .int)) := ⟨kk_1433, kk_1434, kk_1435, kk_13, kk_1436⟩
theorem ws_L_108 : WV "WhiteElephantsLaw" 108 my_X11_buyerOf mb_X11_buyerOf 3 ((some .int)) := ⟨kk_761, kk_762, kk_763, kk_1, kk_764⟩
theorem ws_L_111 : WV "WhiteElephantsLaw" 111 my_X12_buyerOf mb_X12_buyerOf 3 ((some .int)) := ⟨kk_1441, kk_1442, kk_1443, kk_13, kk_1444⟩
theorem ws_L_112 : WV "WhiteElephantsLaw" 112 my_X11_turn mb_X11_turn 4 ((some .int)) := ⟨kk_770, kk_771, kk_772, kk_1, kk_773⟩
theorem ws_L_115 : WV "WhiteElephantsLaw" 115 my_X12_turn mb_X12_turn 4 ((some .int)) := ⟨kk_1449, kk_1450, kk_1451, kk_13, kk_1452⟩
theorem ws_L_116 : WV "WhiteElephantsLaw" 116 my_X11_costs mb_X11_costs 3 ((some .int)) := ⟨kk_774, kk_775, kk_776, kk_1, kk_777⟩
theorem ws_L_119 : WV "WhiteElephantsLaw" 119 my_X12_costs mb_X12_costs 3 ((some .int)) := ⟨kk_1453, kk_1454, kk_1455, kk_13, kk_1456⟩
theorem ws_L_120 : WV "WhiteElephantsLaw" 120 my_X11_takes mb_X11_takes 3 ((some .int)) := ⟨kk_784, kk_785, kk_786, kk_1, kk_787⟩
theorem ws_L_123 : WV "WhiteElephantsLaw" 123 my_X12_takes mb_X12_takes 3 ((some .int)) := ⟨kk_1461, kk_1462, kk_1463, kk_13, kk_1464⟩
theorem ws_L_124 : WV "WhiteElephantsLaw" 124 my_X11_takings mb_X11_takings 3 ((some .int)) := ⟨kk_809, kk_810, kk_811, kk_1, kk_812⟩
theorem ws_L_127 : WV "WhiteElephantsLaw" 127 my_X12_takings mb_X12_takings 3 ((some .int)) := ⟨kk_1473, kk_1474, kk_1475, kk_13, kk_1476⟩
theorem ws_L_128 : WV "WhiteElephantsLaw" 128 my_X11_best mb_X11_best 1 ((some .int)) := ⟨kk_827, kk_828, kk_829, kk_1, kk_830⟩
theorem ws_L_131 : WV "WhiteElephantsLaw" 131 my_X12_best mb_X12_best 6 ((some .int)) := ⟨kk_1481, kk_1482, kk_1483, kk_13, kk_1484⟩
theorem ws_L_132 : WV "WhiteElephantsLaw" 132 my_X11_judge mb_X11_judge 4 ((some .int)) := ⟨kk_836, kk_837, kk_838, kk_1, kk_839⟩
theorem ws_L_135 : WV "WhiteElephantsLaw" 135 my_X12_judge mb_X12_judge 9 ((some .int)) := ⟨kk_1485, kk_1486, kk_1487, kk_13, kk_1488⟩
theorem ws_L_136 : WV "WhiteElephantsLaw" 136 my_X11_rest mb_X11_rest 2 ((some .int)) := ⟨kk_841, kk_842, kk_843, kk_1, kk_844⟩
theorem ws_L_139 : WV "WhiteElephantsLaw" 139 my_X12_rest mb_X12_rest 4 ((some .int)) := ⟨kk_1489, kk_1490, kk_1491, kk_13, kk_1492⟩
theorem ws_L_140 : WV "WhiteElephantsLaw" 140 my_X11_loses mb_X11_loses 3 ((some .int)) := ⟨kk_850, kk_851, kk_852, kk_1, kk_853⟩
theorem ws_L_143 : WV "WhiteElephantsLaw" 143 my_X12_loses mb_X12_loses 3 ((some .int)) := ⟨kk_1493, kk_1494, kk_1495, kk_13, kk_1496⟩
theorem ws_L_144 : WV "WhiteElephantsLaw" 144 my_X11_go mb_X11_go 5 ((some .int)) := ⟨kk_859, kk_860, kk_861, kk_1, kk_862⟩
theorem ws_L_147 : WV "WhiteElephantsLaw" 147 my_X12_go mb_X12_go 8 ((some .int)) := ⟨kk_1501, kk_1502, kk_1503, kk_13, kk_1504⟩
theorem ws_L_148 : WV "WhiteElephantsLaw" 148 my_X11_day mb_X11_day 2 ((some .int)) := ⟨kk_869, kk_870, kk_871, kk_1, kk_872⟩
theorem ws_L_151 : WV "WhiteElephantsLaw" 151 my_X12_day mb_X12_day 2 ((some .int)) := ⟨kk_1505, kk_1506, kk_1507, kk_13, kk_1508⟩
theorem ws_L_152 : WV "WhiteElephantsLaw" 152 my_X11_morning mb_X11_morning 2 ((some .int)) := ⟨kk_877, kk_878, kk_879, kk_1, kk_880⟩
theorem ws_L_155 : WV "WhiteElephantsLaw" 155 my_X12_morning mb_X12_morning 2 ((some .int)) := ⟨kk_1513, kk_1514, kk_1515, kk_13, kk_1516⟩
theorem ws_L_156 : WV "WhiteElephantsLaw" 156 my_X11_shown mb_X11_shown 2 ((some .int)) := ⟨kk_881, kk_882, kk_883, kk_1, kk_884⟩
theorem ws_L_159 : WV "WhiteElephantsLaw" 159 my_X12_shown mb_X12_shown 8 ((some .int)) := ⟨kk_1517, kk_1518, kk_1519, kk_13, kk_1520⟩
theorem ws_L_160 : WV "WhiteElephantsLaw" 160 my_X11_table mb_X11_table 2 ((some .int)) := ⟨kk_895, kk_896, kk_897, kk_1, kk_898⟩
theorem ws_L_163 : WV "WhiteElephantsLaw" 163 my_X12_table mb_X12_table 2 ((some .int)) := ⟨kk_1521, kk_1522, kk_1523, kk_13, kk_1524⟩
theorem ws_L_164 : WV "WhiteElephantsLaw" 164 my_X11_who mb_X11_who 2 ((some .int)) := ⟨kk_899, kk_900, kk_901, kk_1, kk_902⟩
theorem ws_L_167 : WV "WhiteElephantsLaw" 167 my_X12_who mb_X12_who 13 ((some .int)) := ⟨kk_1525, kk_1526, kk_1527, kk_13, kk_1528⟩
theorem ws_L_168 : WV "WhiteElephantsLaw" 168 my_X11_sight mb_X11_sight 5 ((some .int)) := ⟨kk_921, kk_922, kk_923, kk_1, kk_924⟩
theorem ws_L_171 : WV "WhiteElephantsLaw" 171 my_X12_sight mb_X12_sight 5 ((some .int)) := ⟨kk_1529, kk_1530, kk_1531, kk_13, kk_1532⟩
theorem ws_L_172 : WV "WhiteElephantsLaw" 172 my_X11_same mb_X11_same 3 ((some .int)) := ⟨kk_935, kk_936, kk_937, kk_1, kk_938⟩
theorem ws_L_175 : WV "WhiteElephantsLaw" 175 my_X12_same mb_X12_same 3 ((some .int)) := ⟨kk_1537, kk_1538, kk_1539, kk_13, kk_1540⟩
theorem ws_L_176 : WV "WhiteElephantsLaw" 176 my_X11_vases mb_X11_vases 1 ((some .int)) := ⟨kk_948, kk_949, kk_950, kk_1, kk_951⟩
theorem ws_L_179 : WV "WhiteElephantsLaw" 179 my_X12_vases mb_X12_vases 3 ((some .int)) := ⟨kk_1545, kk_1546, kk_1547, kk_13, kk_1548⟩
theorem ws_L_180 : WV "WhiteElephantsLaw" 180 my_X11_longest mb_X11_longest 1 ((some .int)) := ⟨kk_963, kk_964, kk_965, kk_1, kk_966⟩
theorem ws_L_183 : WV "WhiteElephantsLaw" 183 my_X12_longest mb_X12_longest 5 ((some .int)) := ⟨kk_1553, kk_1554, kk_1555, kk_13, kk_1556⟩
theorem ws_L_184 : WV "WhiteElephantsLaw" 184 my_X11_secret mb_X11_secret 3 ((some .int)) := ⟨kk_976, kk_977, kk_978, kk_1, kk_979⟩
theorem ws_L_187 : WV "WhiteElephantsLaw" 187 my_X12_secret mb_X12_secret 3 ((some .int)) := ⟨kk_1557, kk_1558, kk_1559, kk_13, kk_1560⟩
theorem ws_L_188 : WV "WhiteElephantsLaw" 188 my_X11_looks mb_X11_looks 4 ((some .int)) := ⟨kk_984, kk_985, kk_986, kk_1, kk_987⟩
theorem ws_L_191 : WV "WhiteElephantsLaw" 191 my_X12_looks mb_X12_looks 4 ((some .int)) := ⟨kk_1561, kk_1562, kk_1563, kk_13, kk_1564⟩
theorem ws_L_192 : WV "WhiteElephantsLaw" 192 my_X11_laid mb_X11_laid 3 ((some .int)) := ⟨kk_988, kk_989, kk_990, kk_1, kk_991⟩
theorem ws_L_195 : WV "WhiteElephantsLaw" 195 my_X12_laid mb_X12_laid 6 ((some .int)) := ⟨kk_1565, kk_1566, kk_1567, kk_13, kk_1568⟩
theorem ws_L_196 : WV "WhiteElephantsLaw" 196 my_X11_shortBy mb_X11_shortBy 2 ((some .int)) := ⟨kk_1014, kk_1015, kk_1016, kk_1, kk_1017⟩
theorem ws_L_199 : WV "WhiteElephantsLaw" 199 my_X12_shortBy mb_X12_shortBy 8 ((some .int)) := ⟨kk_1573, kk_1574, kk_1575, kk_13, kk_1576⟩
theorem ws_L_200 : WV "WhiteElephantsLaw" 200 my_X11_hall mb_X11_hall 3 ((some .int)) := ⟨kk_1029, kk_1030, kk_1031, kk_1, kk_1032⟩
theorem ws_L_203 : WV "WhiteElephantsLaw" 203 my_X12_hall mb_X12_hall 5 ((some .int)) := ⟨kk_1578, kk_1579, kk_1580, kk_13, kk_1581⟩
theorem ws_L_204 : WV "WhiteElephantsLaw" 204 my_X11_image mb_X11_image 1 ((some .int)) := ⟨kk_1045, kk_1046, kk_1047, kk_1, kk_1048⟩
theorem ws_L_207 : WV "WhiteElephantsLaw" 207 my_X12_image mb_X12_image 1 ((some .int)) := ⟨kk_1586, kk_1587, kk_1588, kk_13, kk_1589⟩
theorem ws_L_208 : WV "WhiteElephantsLaw" 208 my_X11_back mb_X11_back 2 ((some .int)) := ⟨kk_1083, kk_1084, kk_1085, kk_1, kk_1086⟩
theorem ws_L_211 : WV "WhiteElephantsLaw" 211 my_X12_back mb_X12_back 2 ((some .int)) := ⟨kk_1598, kk_1599, kk_1600, kk_13, kk_1601⟩
theorem ws_L_212 : WV "WhiteElephantsLaw" 212 my_X11_status mb_X11_status 2 ((some .int)) := ⟨kk_1087, kk_1088, kk_1089, kk_1, kk_1090⟩
theorem ws_L_215 : WV "WhiteElephantsLaw" 215 my_X12_status mb_X12_status 4 ((some .int)) := ⟨kk_1602, kk_1603, kk_1604, kk_13, kk_1605⟩
