set_option maxRecDepth 100000 in
theorem al_d448 : decode code 448 = .ok (.aload_n 2, 1) := by decide +kernel
set_option maxRecDepth 100000 in
theorem al_d449 : decode code 449 = .ok (.aload_n 0, 1) := by decide +kernel
set_option maxRecDepth 100000 in
theorem al_d450 : decode code 450 = .ok (.iload_n 3, 1) := by decide +kernel
set_option maxRecDepth 100000 in
theorem al_d451 : decode code 451 = .ok (.iconst 1, 1) := by decide +kernel
set_option maxRecDepth 100000 in
theorem al_d452 : decode code 452 = .ok (.iadd, 1) := by decide +kernel
set_option maxRecDepth 100000 in
theorem al_d453 : decode code 453 = .ok (.iaload, 1) := by decide +kernel
set_option maxRecDepth 100000 in
theorem al_d454 : decode code 454 = .ok (.aload_n 0, 1) := by decide +kernel
set_option maxRecDepth 100000 in
theorem al_d455 : decode code 455 = .ok (.iload_n 3, 1) := by decide +kernel
set_option maxRecDepth 100000 in
theorem al_d456 : decode code 456 = .ok (.iconst 2, 1) := by decide +kernel
set_option maxRecDepth 100000 in
theorem al_d457 : decode code 457 = .ok (.iadd, 1) := by decide +kernel
set_option maxRecDepth 100000 in
theorem al_d458 : decode code 458 = .ok (.iaload, 1) := by decide +kernel
set_option maxRecDepth 100000 in
theorem al_d459 : decode code 459 = .ok (.invokevirtual 54, 3) := by decide +kernel
set_option maxRecDepth 100000 in
theorem al_d462 : decode code 462 = .ok (.if_icmp .eq 599, 3) := by decide +kernel
set_option maxRecDepth 100000 in
theorem al_d465 : decode code 465 = .ok (.iconst 0, 1) := by decide +kernel
set_option maxRecDepth 100000 in
theorem al_d466 : decode code 466 = .ok (.ireturn, 1) := by decide +kernel
set_option maxRecDepth 100000 in
theorem al_d467 : decode code 467 = .ok (.aload_n 1, 1) := by decide +kernel
set_option maxRecDepth 100000 in
theorem al_d468 : decode code 468 = .ok (.aload_n 0, 1) := by decide +kernel
set_option maxRecDepth 100000 in
theorem al_d469 : decode code 469 = .ok (.iload_n 3, 1) := by decide +kernel
set_option maxRecDepth 100000 in
theorem al_d470 : decode code 470 = .ok (.iconst 1, 1) := by decide +kernel
set_option maxRecDepth 100000 in
theorem al_d471 : decode code 471 = .ok (.iadd, 1) := by decide +kernel
set_option maxRecDepth 100000 in
theorem al_d472 : decode code 472 = .ok (.iaload, 1) := by decide +kernel
set_option maxRecDepth 100000 in
theorem al_d473 : decode code 473 = .ok (.aload_n 0, 1) := by decide +kernel
set_option maxRecDepth 100000 in
theorem al_d474 : decode code 474 = .ok (.iload_n 3, 1) := by decide +kernel
set_option maxRecDepth 100000 in
theorem al_d475 : decode code 475 = .ok (.iconst 2, 1) := by decide +kernel
set_option maxRecDepth 100000 in
theorem al_d476 : decode code 476 = .ok (.iadd, 1) := by decide +kernel
set_option maxRecDepth 100000 in
theorem al_d477 : decode code 477 = .ok (.iaload, 1) := by decide +kernel
set_option maxRecDepth 100000 in
theorem al_d478 : decode code 478 = .ok (.invokevirtual 55, 3) := by decide +kernel
set_option maxRecDepth 100000 in
theorem al_d481 : decode code 481 = .ok (.aload_n 2, 1) := by decide +kernel
set_option maxRecDepth 100000 in
theorem al_d482 : decode code 482 = .ok (.aload_n 0, 1) := by decide +kernel
set_option maxRecDepth 100000 in
theorem al_d483 : decode code 483 = .ok (.iload_n 3, 1) := by decide +kernel
set_option maxRecDepth 100000 in
theorem al_d484 : decode code 484 = .ok (.iconst 1, 1) := by decide +kernel
set_option maxRecDepth 100000 in
theorem al_d485 : decode code 485 = .ok (.iadd, 1) := by decide +kernel
set_option maxRecDepth 100000 in
theorem al_d486 : decode code 486 = .ok (.iaload, 1) := by decide +kernel
set_option maxRecDepth 100000 in
theorem al_d487 : decode code 487 = .ok (.aload_n 0, 1) := by decide +kernel
set_option maxRecDepth 100000 in
theorem al_d488 : decode code 488 = .ok (.iload_n 3, 1) := by decide +kernel
set_option maxRecDepth 100000 in
theorem al_d489 : decode code 489 = .ok (.iconst 2, 1) := by decide +kernel
set_option maxRecDepth 100000 in
theorem al_d490 : decode code 490 = .ok (.iadd, 1) := by decide +kernel
set_option maxRecDepth 100000 in
theorem al_d491 : decode code 491 = .ok (.iaload, 1) := by decide +kernel
set_option maxRecDepth 100000 in
theorem al_d492 : decode code 492 = .ok (.invokevirtual 58, 3) := by decide +kernel
set_option maxRecDepth 100000 in
theorem al_d495 : decode code 495 = .ok (.if_icmp .eq 566, 3) := by decide +kernel
set_option maxRecDepth 100000 in
theorem al_d498 : decode code 498 = .ok (.iconst 0, 1) := by decide +kernel
set_option maxRecDepth 100000 in
theorem al_d499 : decode code 499 = .ok (.ireturn, 1) := by decide +kernel
set_option maxRecDepth 100000 in
theorem al_d500 : decode code 500 = .ok (.aload_n 1, 1) := by decide +kernel
set_option maxRecDepth 100000 in
theorem al_d501 : decode code 501 = .ok (.aload_n 0, 1) := by decide +kernel
set_option maxRecDepth 100000 in
theorem al_d502 : decode code 502 = .ok (.iload_n 3, 1) := by decide +kernel
set_option maxRecDepth 100000 in
theorem al_d503 : decode code 503 = .ok (.iconst 1, 1) := by decide +kernel
set_option maxRecDepth 100000 in
theorem al_d504 : decode code 504 = .ok (.iadd, 1) := by decide +kernel
set_option maxRecDepth 100000 in
theorem al_d505 : decode code 505 = .ok (.iaload, 1) := by decide +kernel
set_option maxRecDepth 100000 in
theorem al_d506 : decode code 506 = .ok (.aload_n 0, 1) := by decide +kernel
set_option maxRecDepth 100000 in
theorem al_d507 : decode code 507 = .ok (.iload_n 3, 1) := by decide +kernel
set_option maxRecDepth 100000 in
theorem al_d508 : decode code 508 = .ok (.iconst 2, 1) := by decide +kernel
set_option maxRecDepth 100000 in
theorem al_d509 : decode code 509 = .ok (.iadd, 1) := by decide +kernel
set_option maxRecDepth 100000 in
theorem al_d510 : decode code 510 = .ok (.iaload, 1) := by decide +kernel
set_option maxRecDepth 100000 in
theorem al_d511 : decode code 511 = .ok (.invokevirtual 59, 3) := by decide +kernel
set_option maxRecDepth 100000 in
theorem al_d514 : decode code 514 = .ok (.aload_n 2, 1) := by decide +kernel
set_option maxRecDepth 100000 in
theorem al_d515 : decode code 515 = .ok (.aload_n 0, 1) := by decide +kernel
set_option maxRecDepth 100000 in
theorem al_d516 : decode code 516 = .ok (.iload_n 3, 1) := by decide +kernel
set_option maxRecDepth 100000 in
theorem al_d517 : decode code 517 = .ok (.iconst 1, 1) := by decide +kernel
set_option maxRecDepth 100000 in
theorem al_d518 : decode code 518 = .ok (.iadd, 1) := by decide +kernel
set_option maxRecDepth 100000 in
theorem al_d519 : decode code 519 = .ok (.iaload, 1) := by decide +kernel
set_option maxRecDepth 100000 in
theorem al_d520 : decode code 520 = .ok (.aload_n 0, 1) := by decide +kernel
set_option maxRecDepth 100000 in
theorem al_d521 : decode code 521 = .ok (.iload_n 3, 1) := by decide +kernel
set_option maxRecDepth 100000 in
theorem al_d522 : decode code 522 = .ok (.iconst 2, 1) := by decide +kernel
set_option maxRecDepth 100000 in
theorem al_d523 : decode code 523 = .ok (.iadd, 1) := by decide +kernel
set_option maxRecDepth 100000 in
theorem al_d524 : decode code 524 = .ok (.iaload, 1) := by decide +kernel
set_option maxRecDepth 100000 in
theorem al_d525 : decode code 525 = .ok (.invokevirtual 62, 3) := by decide +kernel
set_option maxRecDepth 100000 in
theorem al_d528 : decode code 528 = .ok (.if_icmp .eq 533, 3) := by decide +kernel
set_option maxRecDepth 100000 in
theorem al_d531 : decode code 531 = .ok (.iconst 0, 1) := by decide +kernel
set_option maxRecDepth 100000 in
theorem al_d532 : decode code 532 = .ok (.ireturn, 1) := by decide +kernel
set_option maxRecDepth 100000 in
theorem al_d533 : decode code 533 = .ok (.aload_n 1, 1) := by decide +kernel
set_option maxRecDepth 100000 in
theorem al_d534 : decode code 534 = .ok (.aload_n 0, 1) := by decide +kernel
set_option maxRecDepth 100000 in
theorem al_d535 : decode code 535 = .ok (.iload_n 3, 1) := by decide +kernel
set_option maxRecDepth 100000 in
theorem al_d536 : decode code 536 = .ok (.iconst 1, 1) := by decide +kernel
set_option maxRecDepth 100000 in
theorem al_d537 : decode code 537 = .ok (.iadd, 1) := by decide +kernel
set_option maxRecDepth 100000 in
theorem al_d538 : decode code 538 = .ok (.iaload, 1) := by decide +kernel
set_option maxRecDepth 100000 in
theorem al_d539 : decode code 539 = .ok (.aload_n 0, 1) := by decide +kernel
set_option maxRecDepth 100000 in
theorem al_d540 : decode code 540 = .ok (.iload_n 3, 1) := by decide +kernel
set_option maxRecDepth 100000 in
theorem al_d541 : decode code 541 = .ok (.iconst 2, 1) := by decide +kernel
set_option maxRecDepth 100000 in
theorem al_d542 : decode code 542 = .ok (.iadd, 1) := by decide +kernel
set_option maxRecDepth 100000 in
theorem al_d543 : decode code 543 = .ok (.iaload, 1) := by decide +kernel
set_option maxRecDepth 100000 in
theorem al_d544 : decode code 544 = .ok (.invokevirtual 63, 3) := by decide +kernel
set_option maxRecDepth 100000 in
theorem al_d547 : decode code 547 = .ok (.aload_n 2, 1) := by decide +kernel
set_option maxRecDepth 100000 in
theorem al_d548 : decode code 548 = .ok (.aload_n 0, 1) := by decide +kernel
set_option maxRecDepth 100000 in
theorem al_d549 : decode code 549 = .ok (.iload_n 3, 1) := by decide +kernel
set_option maxRecDepth 100000 in
theorem al_d550 : decode code 550 = .ok (.iconst 1, 1) := by decide +kernel
set_option maxRecDepth 100000 in
theorem al_d551 : decode code 551 = .ok (.iadd, 1) := by decide +kernel
set_option maxRecDepth 100000 in
theorem al_d552 : decode code 552 = .ok (.iaload, 1) := by decide +kernel
set_option maxRecDepth 100000 in
theorem al_d553 : decode code 553 = .ok (.aload_n 0, 1) := by decide +kernel
set_option maxRecDepth 100000 in
theorem al_d554 : decode code 554 = .ok (.iload_n 3, 1) := by decide +kernel
set_option maxRecDepth 100000 in
theorem al_d555 : decode code 555 = .ok (.iconst 2, 1) := by decide +kernel
set_option maxRecDepth 100000 in
theorem al_d556 : decode code 556 = .ok (.iadd, 1) := by decide +kernel
set_option maxRecDepth 100000 in
theorem al_d557 : decode code 557 = .ok (.iaload, 1) := by decide +kernel
set_option maxRecDepth 100000 in
theorem al_d558 : decode code 558 = .ok (.invokevirtual 66, 3) := by decide +kernel
set_option maxRecDepth 100000 in
theorem al_d561 : decode code 561 = .ok (.if_icmp .eq 500, 3) := by decide +kernel
set_option maxRecDepth 100000 in
theorem al_d564 : decode code 564 = .ok (.iconst 0, 1) := by decide +kernel
set_option maxRecDepth 100000 in
theorem al_d565 : decode code 565 = .ok (.ireturn, 1) := by decide +kernel
set_option maxRecDepth 100000 in
theorem al_d566 : decode code 566 = .ok (.aload_n 1, 1) := by decide +kernel
set_option maxRecDepth 100000 in
theorem al_d567 : decode code 567 = .ok (.aload_n 0, 1) := by decide +kernel
set_option maxRecDepth 100000 in
theorem al_d568 : decode code 568 = .ok (.iload_n 3, 1) := by decide +kernel
set_option maxRecDepth 100000 in
theorem al_d569 : decode code 569 = .ok (.iconst 1, 1) := by decide +kernel
set_option maxRecDepth 100000 in
theorem al_d570 : decode code 570 = .ok (.iadd, 1) := by decide +kernel
set_option maxRecDepth 100000 in
theorem al_d571 : decode code 571 = .ok (.iaload, 1) := by decide +kernel
set_option maxRecDepth 100000 in
theorem al_d572 : decode code 572 = .ok (.aload_n 0, 1) := by decide +kernel
set_option maxRecDepth 100000 in
theorem al_d573 : decode code 573 = .ok (.iload_n 3, 1) := by decide +kernel
set_option maxRecDepth 100000 in
theorem al_d574 : decode code 574 = .ok (.iconst 2, 1) := by decide +kernel
set_option maxRecDepth 100000 in
theorem al_d575 : decode code 575 = .ok (.iadd, 1) := by decide +kernel
set_option maxRecDepth 100000 in
theorem al_d576 : decode code 576 = .ok (.iaload, 1) := by decide +kernel
set_option maxRecDepth 100000 in
theorem al_d577 : decode code 577 = .ok (.invokevirtual 67, 3) := by decide +kernel
set_option maxRecDepth 100000 in
theorem al_d580 : decode code 580 = .ok (.aload_n 2, 1) := by decide +kernel
set_option maxRecDepth 100000 in
theorem al_d581 : decode code 581 = .ok (.aload_n 0, 1) := by decide +kernel
set_option maxRecDepth 100000 in
theorem al_d582 : decode code 582 = .ok (.iload_n 3, 1) := by decide +kernel
set_option maxRecDepth 100000 in
theorem al_d583 : decode code 583 = .ok (.iconst 1, 1) := by decide +kernel
set_option maxRecDepth 100000 in
theorem al_d584 : decode code 584 = .ok (.iadd, 1) := by decide +kernel
set_option maxRecDepth 100000 in
theorem al_d585 : decode code 585 = .ok (.iaload, 1) := by decide +kernel
set_option maxRecDepth 100000 in
theorem al_d586 : decode code 586 = .ok (.aload_n 0, 1) := by decide +kernel
set_option maxRecDepth 100000 in
theorem al_d587 : decode code 587 = .ok (.iload_n 3, 1) := by decide +kernel
set_option maxRecDepth 100000 in
theorem al_d588 : decode code 588 = .ok (.iconst 2, 1) := by decide +kernel
set_option maxRecDepth 100000 in
theorem al_d589 : decode code 589 = .ok (.iadd, 1) := by decide +kernel
set_option maxRecDepth 100000 in
theorem al_d590 : decode code 590 = .ok (.iaload, 1) := by decide +kernel
set_option maxRecDepth 100000 in
theorem al_d591 : decode code 591 = .ok (.invokevirtual 70, 3) := by decide +kernel
set_option maxRecDepth 100000 in
theorem al_d594 : decode code 594 = .ok (.if_icmp .eq 467, 3) := by decide +kernel
set_option maxRecDepth 100000 in
theorem al_d597 : decode code 597 = .ok (.iconst 0, 1) := by decide +kernel
set_option maxRecDepth 100000 in
theorem al_d598 : decode code 598 = .ok (.ireturn, 1) := by decide +kernel
set_option maxRecDepth 100000 in
theorem al_d599 : decode code 599 = .ok (.aload_n 1, 1) := by decide +kernel
set_option maxRecDepth 100000 in
theorem al_d600 : decode code 600 = .ok (.aload_n 0, 1) := by decide +kernel
set_option maxRecDepth 100000 in
theorem al_d601 : decode code 601 = .ok (.iload_n 3, 1) := by decide +kernel
set_option maxRecDepth 100000 in
theorem al_d602 : decode code 602 = .ok (.iconst 1, 1) := by decide +kernel
set_option maxRecDepth 100000 in
theorem al_d603 : decode code 603 = .ok (.iadd, 1) := by decide +kernel
set_option maxRecDepth 100000 in
theorem al_d604 : decode code 604 = .ok (.iaload, 1) := by decide +kernel
set_option maxRecDepth 100000 in
theorem al_d605 : decode code 605 = .ok (.invokevirtual 71, 3) := by decide +kernel
set_option maxRecDepth 100000 in
theorem al_d608 : decode code 608 = .ok (.aload_n 2, 1) := by decide +kernel
set_option maxRecDepth 100000 in
theorem al_d609 : decode code 609 = .ok (.aload_n 0, 1) := by decide +kernel
set_option maxRecDepth 100000 in
theorem al_d610 : decode code 610 = .ok (.iload_n 3, 1) := by decide +kernel
set_option maxRecDepth 100000 in
theorem al_d611 : decode code 611 = .ok (.iconst 1, 1) := by decide +kernel
set_option maxRecDepth 100000 in
theorem al_d612 : decode code 612 = .ok (.iadd, 1) := by decide +kernel
set_option maxRecDepth 100000 in
theorem al_d613 : decode code 613 = .ok (.iaload, 1) := by decide +kernel
set_option maxRecDepth 100000 in
theorem al_d614 : decode code 614 = .ok (.invokevirtual 74, 3) := by decide +kernel
set_option maxRecDepth 100000 in
theorem al_d617 : decode code 617 = .ok (.if_icmp .eq 444, 3) := by decide +kernel
set_option maxRecDepth 100000 in
theorem al_d620 : decode code 620 = .ok (.iconst 0, 1) := by decide +kernel
set_option maxRecDepth 100000 in
theorem al_d621 : decode code 621 = .ok (.ireturn, 1) := by decide +kernel
set_option maxRecDepth 100000 in
theorem al_d622 : decode code 622 = .ok (.aload_n 1, 1) := by decide +kernel
set_option maxRecDepth 100000 in
theorem al_d623 : decode code 623 = .ok (.aload_n 0, 1) := by decide +kernel
set_option maxRecDepth 100000 in
theorem al_d624 : decode code 624 = .ok (.iload_n 3, 1) := by decide +kernel
set_option maxRecDepth 100000 in
theorem al_d625 : decode code 625 = .ok (.iconst 1, 1) := by decide +kernel
set_option maxRecDepth 100000 in
theorem al_d626 : decode code 626 = .ok (.iadd, 1) := by decide +kernel
set_option maxRecDepth 100000 in
theorem al_d627 : decode code 627 = .ok (.iaload, 1) := by decide +kernel
set_option maxRecDepth 100000 in
theorem al_d628 : decode code 628 = .ok (.aload_n 0, 1) := by decide +kernel
set_option maxRecDepth 100000 in
theorem al_d629 : decode code 629 = .ok (.iload_n 3, 1) := by decide +kernel
set_option maxRecDepth 100000 in
theorem al_d630 : decode code 630 = .ok (.iconst 2, 1) := by decide +kernel
set_option maxRecDepth 100000 in
theorem al_d631 : decode code 631 = .ok (.iadd, 1) := by decide +kernel
set_option maxRecDepth 100000 in
theorem al_d632 : decode code 632 = .ok (.iaload, 1) := by decide +kernel
set_option maxRecDepth 100000 in
theorem al_d633 : decode code 633 = .ok (.invokevirtual 75, 3) := by decide +kernel
set_option maxRecDepth 100000 in
theorem al_d636 : decode code 636 = .ok (.aload_n 2, 1) := by decide +kernel
set_option maxRecDepth 100000 in
theorem al_d637 : decode code 637 = .ok (.aload_n 0, 1) := by decide +kernel
set_option maxRecDepth 100000 in
theorem al_d638 : decode code 638 = .ok (.iload_n 3, 1) := by decide +kernel
set_option maxRecDepth 100000 in
theorem al_d639 : decode code 639 = .ok (.iconst 1, 1) := by decide +kernel
set_option maxRecDepth 100000 in
theorem al_d640 : decode code 640 = .ok (.iadd, 1) := by decide +kernel
set_option maxRecDepth 100000 in
theorem al_d641 : decode code 641 = .ok (.iaload, 1) := by decide +kernel
set_option maxRecDepth 100000 in
theorem al_d642 : decode code 642 = .ok (.aload_n 0, 1) := by decide +kernel
set_option maxRecDepth 100000 in
theorem al_d643 : decode code 643 = .ok (.iload_n 3, 1) := by decide +kernel
set_option maxRecDepth 100000 in
theorem al_d644 : decode code 644 = .ok (.iconst 2, 1) := by decide +kernel
set_option maxRecDepth 100000 in
theorem al_d645 : decode code 645 = .ok (.iadd, 1) := by decide +kernel
set_option maxRecDepth 100000 in
theorem al_d646 : decode code 646 = .ok (.iaload, 1) := by decide +kernel
set_option maxRecDepth 100000 in
theorem al_d647 : decode code 647 = .ok (.invokevirtual 78, 3) := by decide +kernel
set_option maxRecDepth 100000 in
theorem al_d650 : decode code 650 = .ok (.if_icmp .eq 411, 3) := by decide +kernel
set_option maxRecDepth 100000 in
theorem al_d653 : decode code 653 = .ok (.iconst 0, 1) := by decide +kernel
set_option maxRecDepth 100000 in
theorem al_d654 : decode code 654 = .ok (.ireturn, 1) := by decide +kernel
set_option maxRecDepth 100000 in
theorem al_d655 : decode code 655 = .ok (.aload_n 1, 1) := by decide +kernel
set_option maxRecDepth 100000 in
theorem al_d656 : decode code 656 = .ok (.aload_n 0, 1) := by decide +kernel
set_option maxRecDepth 100000 in
theorem al_d657 : decode code 657 = .ok (.iload_n 3, 1) := by decide +kernel
set_option maxRecDepth 100000 in
theorem al_d658 : decode code 658 = .ok (.iconst 1, 1) := by decide +kernel
set_option maxRecDepth 100000 in
theorem al_d659 : decode code 659 = .ok (.iadd, 1) := by decide +kernel
set_option maxRecDepth 100000 in
theorem al_d660 : decode code 660 = .ok (.iaload, 1) := by decide +kernel
set_option maxRecDepth 100000 in
theorem al_d661 : decode code 661 = .ok (.aload_n 0, 1) := by decide +kernel
set_option maxRecDepth 100000 in
theorem al_d662 : decode code 662 = .ok (.iload_n 3, 1) := by decide +kernel
set_option maxRecDepth 100000 in
theorem al_d663 : decode code 663 = .ok (.iconst 2, 1) := by decide +kernel
set_option maxRecDepth 100000 in
theorem al_d664 : decode code 664 = .ok (.iadd, 1) := by decide +kernel
set_option maxRecDepth 100000 in
theorem al_d665 : decode code 665 = .ok (.iaload, 1) := by decide +kernel
set_option maxRecDepth 100000 in
theorem al_d666 : decode code 666 = .ok (.invokevirtual 79, 3) := by decide +kernel
set_option maxRecDepth 100000 in
theorem al_d669 : decode code 669 = .ok (.aload_n 2, 1) := by decide +kernel
set_option maxRecDepth 100000 in
theorem al_d670 : decode code 670 = .ok (.aload_n 0, 1) := by decide +kernel
set_option maxRecDepth 100000 in
theorem al_d671 : decode code 671 = .ok (.iload_n 3, 1) := by decide +kernel
set_option maxRecDepth 100000 in
theorem al_d672 : decode code 672 = .ok (.iconst 1, 1) := by decide +kernel
set_option maxRecDepth 100000 in
theorem al_d673 : decode code 673 = .ok (.iadd, 1) := by decide +kernel
set_option maxRecDepth 100000 in
theorem al_d674 : decode code 674 = .ok (.iaload, 1) := by decide +kernel
set_option maxRecDepth 100000 in
theorem al_d675 : decode code 675 = .ok (.aload_n 0, 1) := by decide +kernel
set_option maxRecDepth 100000 in
theorem al_d676 : decode code 676 = .ok (.iload_n 3, 1) := by decide +kernel
set_option maxRecDepth 100000 in
theorem al_d677 : decode code 677 = .ok (.iconst 2, 1) := by decide +kernel
set_option maxRecDepth 100000 in
theorem al_d678 : decode code 678 = .ok (.iadd, 1) := by decide +kernel
set_option maxRecDepth 100000 in
theorem al_d679 : decode code 679 = .ok (.iaload, 1) := by decide +kernel
set_option maxRecDepth 100000 in
theorem al_d680 : decode code 680 = .ok (.invokevirtual 83, 3) := by decide +kernel
set_option maxRecDepth 100000 in
theorem al_d683 : decode code 683 = .ok (.lcmp, 1) := by decide +kernel
set_option maxRecDepth 100000 in
theorem al_d684 : decode code 684 = .ok (.ifCond .eq 377, 3) := by decide +kernel
set_option maxRecDepth 100000 in
theorem al_d687 : decode code 687 = .ok (.iconst 0, 1) := by decide +kernel
set_option maxRecDepth 100000 in
theorem al_d688 : decode code 688 = .ok (.ireturn, 1) := by decide +kernel
set_option maxRecDepth 100000 in
theorem al_d689 : decode code 689 = .ok (.aload_n 1, 1) := by decide +kernel
set_option maxRecDepth 100000 in
theorem al_d690 : decode code 690 = .ok (.aload_n 0, 1) := by decide +kernel
set_option maxRecDepth 100000 in
theorem al_d691 : decode code 691 = .ok (.iload_n 3, 1) := by decide +kernel
set_option maxRecDepth 100000 in
theorem al_d692 : decode code 692 = .ok (.iconst 1, 1) := by decide +kernel
set_option maxRecDepth 100000 in
theorem al_d693 : decode code 693 = .ok (.iadd, 1) := by decide +kernel
set_option maxRecDepth 100000 in
theorem al_d694 : decode code 694 = .ok (.iaload, 1) := by decide +kernel
set_option maxRecDepth 100000 in
theorem al_d695 : decode code 695 = .ok (.invokevirtual 84, 3) := by decide +kernel
set_option maxRecDepth 100000 in
theorem al_d698 : decode code 698 = .ok (.aload_n 2, 1) := by decide +kernel
set_option maxRecDepth 100000 in
theorem al_d699 : decode code 699 = .ok (.aload_n 0, 1) := by decide +kernel
set_option maxRecDepth 100000 in
theorem al_d700 : decode code 700 = .ok (.iload_n 3, 1) := by decide +kernel
set_option maxRecDepth 100000 in
theorem al_d701 : decode code 701 = .ok (.iconst 1, 1) := by decide +kernel
set_option maxRecDepth 100000 in
theorem al_d702 : decode code 702 = .ok (.iadd, 1) := by decide +kernel
set_option maxRecDepth 100000 in
theorem al_d703 : decode code 703 = .ok (.iaload, 1) := by decide +kernel
set_option maxRecDepth 100000 in
theorem al_d704 : decode code 704 = .ok (.invokevirtual 87, 3) := by decide +kernel
set_option maxRecDepth 100000 in
theorem al_d707 : decode code 707 = .ok (.if_icmp .eq 354, 3) := by decide +kernel
set_option maxRecDepth 100000 in
theorem al_d710 : decode code 710 = .ok (.iconst 0, 1) := by decide +kernel
set_option maxRecDepth 100000 in
theorem al_d711 : decode code 711 = .ok (.ireturn, 1) := by decide +kernel
set_option maxRecDepth 100000 in
theorem al_d712 : decode code 712 = .ok (.aload_n 1, 1) := by decide +kernel
set_option maxRecDepth 100000 in
theorem al_d713 : decode code 713 = .ok (.invokevirtual 88, 3) := by decide +kernel
set_option maxRecDepth 100000 in
theorem al_d716 : decode code 716 = .ok (.aload_n 2, 1) := by decide +kernel
set_option maxRecDepth 100000 in
theorem al_d717 : decode code 717 = .ok (.invokevirtual 91, 3) := by decide +kernel
set_option maxRecDepth 100000 in
theorem al_d720 : decode code 720 = .ok (.if_icmp .eq 341, 3) := by decide +kernel
set_option maxRecDepth 100000 in
theorem al_d723 : decode code 723 = .ok (.iconst 0, 1) := by decide +kernel
set_option maxRecDepth 100000 in
theorem al_d724 : decode code 724 = .ok (.ireturn, 1) := by decide +kernel
set_option maxRecDepth 100000 in
theorem al_d725 : decode code 725 = .ok (.aload_n 1, 1) := by decide +kernel
set_option maxRecDepth 100000 in
theorem al_d726 : decode code 726 = .ok (.aload_n 0, 1) := by decide +kernel
set_option maxRecDepth 100000 in
theorem al_d727 : decode code 727 = .ok (.iload_n 3, 1) := by decide +kernel
set_option maxRecDepth 100000 in
theorem al_d728 : decode code 728 = .ok (.iconst 1, 1) := by decide +kernel
set_option maxRecDepth 100000 in
theorem al_d729 : decode code 729 = .ok (.iadd, 1) := by decide +kernel
set_option maxRecDepth 100000 in
theorem al_d730 : decode code 730 = .ok (.iaload, 1) := by decide +kernel
set_option maxRecDepth 100000 in
theorem al_d731 : decode code 731 = .ok (.aload_n 0, 1) := by decide +kernel
set_option maxRecDepth 100000 in
theorem al_d732 : decode code 732 = .ok (.iload_n 3, 1) := by decide +kernel
set_option maxRecDepth 100000 in
theorem al_d733 : decode code 733 = .ok (.iconst 2, 1) := by decide +kernel
set_option maxRecDepth 100000 in
theorem al_d734 : decode code 734 = .ok (.iadd, 1) := by decide +kernel
set_option maxRecDepth 100000 in
theorem al_d735 : decode code 735 = .ok (.iaload, 1) := by decide +kernel
set_option maxRecDepth 100000 in
theorem al_d736 : decode code 736 = .ok (.invokevirtual 92, 3) := by decide +kernel
set_option maxRecDepth 100000 in
theorem al_d739 : decode code 739 = .ok (.aload_n 2, 1) := by decide +kernel
set_option maxRecDepth 100000 in
theorem al_d740 : decode code 740 = .ok (.aload_n 0, 1) := by decide +kernel
set_option maxRecDepth 100000 in
theorem al_d741 : decode code 741 = .ok (.iload_n 3, 1) := by decide +kernel
set_option maxRecDepth 100000 in
theorem al_d742 : decode code 742 = .ok (.iconst 1, 1) := by decide +kernel
set_option maxRecDepth 100000 in
theorem al_d743 : decode code 743 = .ok (.iadd, 1) := by decide +kernel
set_option maxRecDepth 100000 in
theorem al_d744 : decode code 744 = .ok (.iaload, 1) := by decide +kernel
set_option maxRecDepth 100000 in
theorem al_d745 : decode code 745 = .ok (.aload_n 0, 1) := by decide +kernel
set_option maxRecDepth 100000 in
theorem al_d746 : decode code 746 = .ok (.iload_n 3, 1) := by decide +kernel
set_option maxRecDepth 100000 in
theorem al_d747 : decode code 747 = .ok (.iconst 2, 1) := by decide +kernel
