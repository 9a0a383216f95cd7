theorem dL_law_378 : decode cL_law 378 = .ok (.if_icmp .ne 27, 3) := by decide +kernel
theorem dL_law_381 : decode cL_law 381 = .ok (.iload 6, 2) := by decide +kernel
theorem dL_law_383 : decode cL_law 383 = .ok (.bipush 7, 2) := by decide +kernel
theorem dL_law_385 : decode cL_law 385 = .ok (.invokestatic 70, 3) := by decide +kernel
theorem dL_law_388 : decode cL_law 388 = .ok (.ifCond .le 17, 3) := by decide +kernel
theorem dL_law_391 : decode cL_law 391 = .ok (.iload 11, 2) := by decide +kernel
theorem dL_law_393 : decode cL_law 393 = .ok (.bipush 100, 2) := by decide +kernel
theorem dL_law_395 : decode cL_law 395 = .ok (.idiv, 1) := by decide +kernel
theorem dL_law_396 : decode cL_law 396 = .ok (.bipush 100, 2) := by decide +kernel
theorem dL_law_398 : decode cL_law 398 = .ok (.imul, 1) := by decide +kernel
theorem dL_law_399 : decode cL_law 399 = .ok (.bipush 100, 2) := by decide +kernel
theorem dL_law_401 : decode cL_law 401 = .ok (.iadd, 1) := by decide +kernel
theorem dL_law_402 : decode cL_law 402 = .ok (.goto 5, 3) := by decide +kernel
theorem dL_law_405 : decode cL_law 405 = .ok (.iload 11, 2) := by decide +kernel
theorem dL_law_407 : decode cL_law 407 = .ok (.istore 11, 2) := by decide +kernel
theorem dL_law_409 : decode cL_law 409 = .ok (.aload_n 1, 1) := by decide +kernel
theorem dL_law_410 : decode cL_law 410 = .ok (.iload 9, 2) := by decide +kernel
theorem dL_law_412 : decode cL_law 412 = .ok (.iload 10, 2) := by decide +kernel
theorem dL_law_414 : decode cL_law 414 = .ok (.iconst 0, 1) := by decide +kernel
theorem dL_law_415 : decode cL_law 415 = .ok (.invokevirtual 57, 3) := by decide +kernel
theorem dL_law_418 : decode cL_law 418 = .ok (.istore 14, 2) := by decide +kernel
theorem dL_law_420 : decode cL_law 420 = .ok (.iload 13, 2) := by decide +kernel
theorem dL_law_422 : decode cL_law 422 = .ok (.ifCond .ne 14, 3) := by decide +kernel
theorem dL_law_425 : decode cL_law 425 = .ok (.aload_n 1, 1) := by decide +kernel
theorem dL_law_426 : decode cL_law 426 = .ok (.iload 8, 2) := by decide +kernel
theorem dL_law_428 : decode cL_law 428 = .ok (.iload 10, 2) := by decide +kernel
theorem dL_law_430 : decode cL_law 430 = .ok (.invokevirtual 51, 3) := by decide +kernel
theorem dL_law_433 : decode cL_law 433 = .ok (.goto 10, 3) := by decide +kernel
theorem dL_law_436 : decode cL_law 436 = .ok (.aload_n 1, 1) := by decide +kernel
theorem dL_law_437 : decode cL_law 437 = .ok (.iload 8, 2) := by decide +kernel
theorem dL_law_439 : decode cL_law 439 = .ok (.iconst 4, 1) := by decide +kernel
theorem dL_law_440 : decode cL_law 440 = .ok (.invokevirtual 48, 3) := by decide +kernel
theorem dL_law_443 : decode cL_law 443 = .ok (.istore 15, 2) := by decide +kernel
theorem dL_law_445 : decode cL_law 445 = .ok (.iload 13, 2) := by decide +kernel
theorem dL_law_447 : decode cL_law 447 = .ok (.ifCond .ne 8, 3) := by decide +kernel
theorem dL_law_450 : decode cL_law 450 = .ok (.iload 11, 2) := by decide +kernel
theorem dL_law_452 : decode cL_law 452 = .ok (.goto 26, 3) := by decide +kernel
theorem dL_law_455 : decode cL_law 455 = .ok (.iload 13, 2) := by decide +kernel
theorem dL_law_457 : decode cL_law 457 = .ok (.iconst 1, 1) := by decide +kernel
theorem dL_law_458 : decode cL_law 458 = .ok (.if_icmp .ne 19, 3) := by decide +kernel
theorem dL_law_461 : decode cL_law 461 = .ok (.aload_n 1, 1) := by decide +kernel
theorem dL_law_462 : decode cL_law 462 = .ok (.iload 10, 2) := by decide +kernel
theorem dL_law_464 : decode cL_law 464 = .ok (.iconst 1, 1) := by decide +kernel
theorem dL_law_465 : decode cL_law 465 = .ok (.invokevirtual 60, 3) := by decide +kernel
theorem dL_law_468 : decode cL_law 468 = .ok (.iload 11, 2) := by decide +kernel
theorem dL_law_470 : decode cL_law 470 = .ok (.imul, 1) := by decide +kernel
theorem dL_law_471 : decode cL_law 471 = .ok (.bipush 100, 2) := by decide +kernel
theorem dL_law_473 : decode cL_law 473 = .ok (.idiv, 1) := by decide +kernel
theorem dL_law_474 : decode cL_law 474 = .ok (.goto 4, 3) := by decide +kernel
theorem dL_law_477 : decode cL_law 477 = .ok (.iconst 0, 1) := by decide +kernel
theorem dL_law_478 : decode cL_law 478 = .ok (.istore 16, 2) := by decide +kernel
theorem dL_law_480 : decode cL_law 480 = .ok (.aload_n 1, 1) := by decide +kernel
theorem dL_law_481 : decode cL_law 481 = .ok (.iload 8, 2) := by decide +kernel
theorem dL_law_483 : decode cL_law 483 = .ok (.bipush 6, 2) := by decide +kernel
theorem dL_law_485 : decode cL_law 485 = .ok (.invokevirtual 48, 3) := by decide +kernel
theorem dL_law_488 : decode cL_law 488 = .ok (.ifCond .ne 38, 3) := by decide +kernel
theorem dL_law_491 : decode cL_law 491 = .ok (.iload 14, 2) := by decide +kernel
theorem dL_law_493 : decode cL_law 493 = .ok (.iload 11, 2) := by decide +kernel
theorem dL_law_495 : decode cL_law 495 = .ok (.if_icmp .lt 31, 3) := by decide +kernel
theorem dL_law_498 : decode cL_law 498 = .ok (.iload 16, 2) := by decide +kernel
theorem dL_law_500 : decode cL_law 500 = .ok (.iload 15, 2) := by decide +kernel
theorem dL_law_502 : decode cL_law 502 = .ok (.if_icmp .gt 24, 3) := by decide +kernel
theorem dL_law_505 : decode cL_law 505 = .ok (.iload 13, 2) := by decide +kernel
theorem dL_law_507 : decode cL_law 507 = .ok (.ifCond .gt 15, 3) := by decide +kernel
theorem dL_law_510 : decode cL_law 510 = .ok (.aload_n 1, 1) := by decide +kernel
theorem dL_law_511 : decode cL_law 511 = .ok (.iload 8, 2) := by decide +kernel
theorem dL_law_513 : decode cL_law 513 = .ok (.iconst 1, 1) := by decide +kernel
theorem dL_law_514 : decode cL_law 514 = .ok (.invokevirtual 48, 3) := by decide +kernel
theorem dL_law_517 : decode cL_law 517 = .ok (.iload 9, 2) := by decide +kernel
theorem dL_law_519 : decode cL_law 519 = .ok (.if_icmp .ne 7, 3) := by decide +kernel
theorem dL_law_522 : decode cL_law 522 = .ok (.iconst 1, 1) := by decide +kernel
theorem dL_law_523 : decode cL_law 523 = .ok (.goto 4, 3) := by decide +kernel
theorem dL_law_526 : decode cL_law 526 = .ok (.iconst 0, 1) := by decide +kernel
theorem dL_law_527 : decode cL_law 527 = .ok (.istore 17, 2) := by decide +kernel
theorem dL_law_529 : decode cL_law 529 = .ok (.iload 13, 2) := by decide +kernel
theorem dL_law_531 : decode cL_law 531 = .ok (.iconst 1, 1) := by decide +kernel
theorem dL_law_532 : decode cL_law 532 = .ok (.if_icmp .ne 16, 3) := by decide +kernel
theorem dL_law_535 : decode cL_law 535 = .ok (.iload 11, 2) := by decide +kernel
theorem dL_law_537 : decode cL_law 537 = .ok (.bipush 100, 2) := by decide +kernel
theorem dL_law_539 : decode cL_law 539 = .ok (.irem, 1) := by decide +kernel
theorem dL_law_540 : decode cL_law 540 = .ok (.ifCond .le 8, 3) := by decide +kernel
theorem dL_law_543 : decode cL_law 543 = .ok (.bipush (-100), 2) := by decide +kernel
theorem dL_law_545 : decode cL_law 545 = .ok (.goto 29, 3) := by decide +kernel
theorem dL_law_548 : decode cL_law 548 = .ok (.iload 17, 2) := by decide +kernel
theorem dL_law_550 : decode cL_law 550 = .ok (.ifCond .ne 9, 3) := by decide +kernel
theorem dL_law_553 : decode cL_law 553 = .ok (.sipush (-200), 3) := by decide +kernel
theorem dL_law_556 : decode cL_law 556 = .ok (.goto 18, 3) := by decide +kernel
theorem dL_law_559 : decode cL_law 559 = .ok (.iload 13, 2) := by decide +kernel
theorem dL_law_561 : decode cL_law 561 = .ok (.iconst 2, 1) := by decide +kernel
theorem dL_law_562 : decode cL_law 562 = .ok (.if_icmp .ne 7, 3) := by decide +kernel
theorem dL_law_565 : decode cL_law 565 = .ok (.iconst (-1), 1) := by decide +kernel
theorem dL_law_566 : decode cL_law 566 = .ok (.goto 8, 3) := by decide +kernel
theorem dL_law_569 : decode cL_law 569 = .ok (.iload 15, 2) := by decide +kernel
theorem dL_law_571 : decode cL_law 571 = .ok (.iload 16, 2) := by decide +kernel
theorem dL_law_573 : decode cL_law 573 = .ok (.isub, 1) := by decide +kernel
theorem dL_law_574 : decode cL_law 574 = .ok (.istore 18, 2) := by decide +kernel
theorem dL_law_576 : decode cL_law 576 = .ok (.aload_n 1, 1) := by decide +kernel
theorem dL_law_577 : decode cL_law 577 = .ok (.iload 9, 2) := by decide +kernel
theorem dL_law_579 : decode cL_law 579 = .ok (.iload 10, 2) := by decide +kernel
theorem dL_law_581 : decode cL_law 581 = .ok (.iconst 1, 1) := by decide +kernel
theorem dL_law_582 : decode cL_law 582 = .ok (.invokevirtual 57, 3) := by decide +kernel
theorem dL_law_585 : decode cL_law 585 = .ok (.istore 19, 2) := by decide +kernel
theorem dL_law_587 : decode cL_law 587 = .ok (.aload_n 1, 1) := by decide +kernel
theorem dL_law_588 : decode cL_law 588 = .ok (.iload 8, 2) := by decide +kernel
theorem dL_law_590 : decode cL_law 590 = .ok (.iload 9, 2) := by decide +kernel
theorem dL_law_592 : decode cL_law 592 = .ok (.iload 10, 2) := by decide +kernel
theorem dL_law_594 : decode cL_law 594 = .ok (.iload 11, 2) := by decide +kernel
theorem dL_law_596 : decode cL_law 596 = .ok (.invokestatic 100, 3) := by decide +kernel
theorem dL_law_599 : decode cL_law 599 = .ok (.iload 18, 2) := by decide +kernel
theorem dL_law_601 : decode cL_law 601 = .ok (.if_icmp .ne 65, 3) := by decide +kernel
theorem dL_law_604 : decode cL_law 604 = .ok (.aload_n 1, 1) := by decide +kernel
theorem dL_law_605 : decode cL_law 605 = .ok (.iload 9, 2) := by decide +kernel
theorem dL_law_607 : decode cL_law 607 = .ok (.iload 10, 2) := by decide +kernel
theorem dL_law_609 : decode cL_law 609 = .ok (.iconst 0, 1) := by decide +kernel
theorem dL_law_610 : decode cL_law 610 = .ok (.invokevirtual 57, 3) := by decide +kernel
theorem dL_law_613 : decode cL_law 613 = .ok (.iload 14, 2) := by decide +kernel
theorem dL_law_615 : decode cL_law 615 = .ok (.iload 18, 2) := by decide +kernel
theorem dL_law_617 : decode cL_law 617 = .ok (.bipush (-100), 2) := by decide +kernel
theorem dL_law_619 : decode cL_law 619 = .ok (.if_icmp .le 8, 3) := by decide +kernel
theorem dL_law_622 : decode cL_law 622 = .ok (.iload 11, 2) := by decide +kernel
theorem dL_law_624 : decode cL_law 624 = .ok (.goto 4, 3) := by decide +kernel
theorem dL_law_627 : decode cL_law 627 = .ok (.iconst 0, 1) := by decide +kernel
theorem dL_law_628 : decode cL_law 628 = .ok (.isub, 1) := by decide +kernel
theorem dL_law_629 : decode cL_law 629 = .ok (.if_icmp .ne 37, 3) := by decide +kernel
theorem dL_law_632 : decode cL_law 632 = .ok (.aload_n 1, 1) := by decide +kernel
theorem dL_law_633 : decode cL_law 633 = .ok (.iload 9, 2) := by decide +kernel
theorem dL_law_635 : decode cL_law 635 = .ok (.iload 10, 2) := by decide +kernel
theorem dL_law_637 : decode cL_law 637 = .ok (.iconst 1, 1) := by decide +kernel
theorem dL_law_638 : decode cL_law 638 = .ok (.invokevirtual 57, 3) := by decide +kernel
theorem dL_law_641 : decode cL_law 641 = .ok (.iload 19, 2) := by decide +kernel
theorem dL_law_643 : decode cL_law 643 = .ok (.iload 18, 2) := by decide +kernel
theorem dL_law_645 : decode cL_law 645 = .ok (.bipush (-100), 2) := by decide +kernel
theorem dL_law_647 : decode cL_law 647 = .ok (.if_icmp .le 14, 3) := by decide +kernel
theorem dL_law_650 : decode cL_law 650 = .ok (.iload 13, 2) := by decide +kernel
theorem dL_law_652 : decode cL_law 652 = .ok (.iconst 2, 1) := by decide +kernel
theorem dL_law_653 : decode cL_law 653 = .ok (.if_icmp .ge 8, 3) := by decide +kernel
theorem dL_law_656 : decode cL_law 656 = .ok (.iload 11, 2) := by decide +kernel
theorem dL_law_658 : decode cL_law 658 = .ok (.goto 4, 3) := by decide +kernel
theorem dL_law_661 : decode cL_law 661 = .ok (.iconst 0, 1) := by decide +kernel
theorem dL_law_662 : decode cL_law 662 = .ok (.iadd, 1) := by decide +kernel
theorem dL_law_663 : decode cL_law 663 = .ok (.if_icmp .eq 5, 3) := by decide +kernel
theorem dL_law_666 : decode cL_law 666 = .ok (.iconst 0, 1) := by decide +kernel
theorem dL_law_667 : decode cL_law 667 = .ok (.ireturn, 1) := by decide +kernel
theorem dL_law_668 : decode cL_law 668 = .ok (.goto 894, 3) := by decide +kernel
theorem dL_law_671 : decode cL_law 671 = .ok (.iload 12, 2) := by decide +kernel
theorem dL_law_673 : decode cL_law 673 = .ok (.bipush 6, 2) := by decide +kernel
theorem dL_law_675 : decode cL_law 675 = .ok (.if_icmp .ge 264, 3) := by decide +kernel
theorem dL_law_678 : decode cL_law 678 = .ok (.iload 12, 2) := by decide +kernel
theorem dL_law_680 : decode cL_law 680 = .ok (.iconst 3, 1) := by decide +kernel
theorem dL_law_681 : decode cL_law 681 = .ok (.isub, 1) := by decide +kernel
theorem dL_law_682 : decode cL_law 682 = .ok (.istore 13, 2) := by decide +kernel
theorem dL_law_684 : decode cL_law 684 = .ok (.aload_n 1, 1) := by decide +kernel
theorem dL_law_685 : decode cL_law 685 = .ok (.iload 9, 2) := by decide +kernel
theorem dL_law_687 : decode cL_law 687 = .ok (.iload 10, 2) := by decide +kernel
theorem dL_law_689 : decode cL_law 689 = .ok (.iload 11, 2) := by decide +kernel
theorem dL_law_691 : decode cL_law 691 = .ok (.iconst 1, 1) := by decide +kernel
theorem dL_law_692 : decode cL_law 692 = .ok (.invokevirtual 104, 3) := by decide +kernel
theorem dL_law_695 : decode cL_law 695 = .ok (.istore 14, 2) := by decide +kernel
theorem dL_law_697 : decode cL_law 697 = .ok (.aload_n 1, 1) := by decide +kernel
theorem dL_law_698 : decode cL_law 698 = .ok (.iload 9, 2) := by decide +kernel
theorem dL_law_700 : decode cL_law 700 = .ok (.iload 10, 2) := by decide +kernel
theorem dL_law_702 : decode cL_law 702 = .ok (.iload 11, 2) := by decide +kernel
theorem dL_law_704 : decode cL_law 704 = .ok (.iconst 2, 1) := by decide +kernel
theorem dL_law_705 : decode cL_law 705 = .ok (.invokevirtual 104, 3) := by decide +kernel
theorem dL_law_708 : decode cL_law 708 = .ok (.istore 15, 2) := by decide +kernel
theorem dL_law_710 : decode cL_law 710 = .ok (.aload_n 1, 1) := by decide +kernel
theorem dL_law_711 : decode cL_law 711 = .ok (.iload 9, 2) := by decide +kernel
theorem dL_law_713 : decode cL_law 713 = .ok (.iload 10, 2) := by decide +kernel
theorem dL_law_715 : decode cL_law 715 = .ok (.iconst 0, 1) := by decide +kernel
theorem dL_law_716 : decode cL_law 716 = .ok (.invokevirtual 57, 3) := by decide +kernel
theorem dL_law_719 : decode cL_law 719 = .ok (.istore 16, 2) := by decide +kernel
theorem dL_law_721 : decode cL_law 721 = .ok (.aload_n 1, 1) := by decide +kernel
theorem dL_law_722 : decode cL_law 722 = .ok (.iload 9, 2) := by decide +kernel
theorem dL_law_724 : decode cL_law 724 = .ok (.iload 10, 2) := by decide +kernel
theorem dL_law_726 : decode cL_law 726 = .ok (.iconst 1, 1) := by decide +kernel
theorem dL_law_727 : decode cL_law 727 = .ok (.invokevirtual 57, 3) := by decide +kernel
theorem dL_law_730 : decode cL_law 730 = .ok (.istore 17, 2) := by decide +kernel
theorem dL_law_732 : decode cL_law 732 = .ok (.aload_n 1, 1) := by decide +kernel
theorem dL_law_733 : decode cL_law 733 = .ok (.iload 9, 2) := by decide +kernel
theorem dL_law_735 : decode cL_law 735 = .ok (.iload 10, 2) := by decide +kernel
theorem dL_law_737 : decode cL_law 737 = .ok (.iconst 2, 1) := by decide +kernel
theorem dL_law_738 : decode cL_law 738 = .ok (.invokevirtual 57, 3) := by decide +kernel
theorem dL_law_741 : decode cL_law 741 = .ok (.istore 18, 2) := by decide +kernel
theorem dL_law_743 : decode cL_law 743 = .ok (.aload_n 1, 1) := by decide +kernel
theorem dL_law_744 : decode cL_law 744 = .ok (.iload 9, 2) := by decide +kernel
theorem dL_law_746 : decode cL_law 746 = .ok (.iload 10, 2) := by decide +kernel
theorem dL_law_748 : decode cL_law 748 = .ok (.iconst 3, 1) := by decide +kernel
theorem dL_law_749 : decode cL_law 749 = .ok (.invokevirtual 57, 3) := by decide +kernel
theorem dL_law_752 : decode cL_law 752 = .ok (.istore 19, 2) := by decide +kernel
theorem dL_law_754 : decode cL_law 754 = .ok (.iload 13, 2) := by decide +kernel
theorem dL_law_756 : decode cL_law 756 = .ok (.iconst 2, 1) := by decide +kernel
theorem dL_law_757 : decode cL_law 757 = .ok (.if_icmp .ne 18, 3) := by decide +kernel
theorem dL_law_760 : decode cL_law 760 = .ok (.iload 16, 2) := by decide +kernel
theorem dL_law_762 : decode cL_law 762 = .ok (.iload 11, 2) := by decide +kernel
theorem dL_law_764 : decode cL_law 764 = .ok (.if_icmp .lt 7, 3) := by decide +kernel
theorem dL_law_767 : decode cL_law 767 = .ok (.iconst 1, 1) := by decide +kernel
theorem dL_law_768 : decode cL_law 768 = .ok (.goto 35, 3) := by decide +kernel
theorem dL_law_771 : decode cL_law 771 = .ok (.iconst 0, 1) := by decide +kernel
theorem dL_law_772 : decode cL_law 772 = .ok (.goto 31, 3) := by decide +kernel
theorem dL_law_775 : decode cL_law 775 = .ok (.iload 15, 2) := by decide +kernel
theorem dL_law_777 : decode cL_law 777 = .ok (.ifCond .ne 8, 3) := by decide +kernel
theorem dL_law_780 : decode cL_law 780 = .ok (.iload 14, 2) := by decide +kernel
theorem dL_law_782 : decode cL_law 782 = .ok (.ifCond .ne 20, 3) := by decide +kernel
theorem dL_law_785 : decode cL_law 785 = .ok (.iload 13, 2) := by decide +kernel
theorem dL_law_787 : decode cL_law 787 = .ok (.iconst 1, 1) := by decide +kernel
theorem dL_law_788 : decode cL_law 788 = .ok (.if_icmp .eq 10, 3) := by decide +kernel
theorem dL_law_791 : decode cL_law 791 = .ok (.iload 17, 2) := by decide +kernel
theorem dL_law_793 : decode cL_law 793 = .ok (.iload 11, 2) := by decide +kernel
theorem dL_law_795 : decode cL_law 795 = .ok (.if_icmp .lt 7, 3) := by decide +kernel
