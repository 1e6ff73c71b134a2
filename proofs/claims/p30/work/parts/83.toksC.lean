def okM2 (r : MI) (p1 p2 p3 p4 : Nat) : Bool := decide (clsN (mi_cn r) = (mi_nm r).cls) && plainFor (mi_nm r) && decide (mi_ml r ≤ 23) && decide ((mi_nm r).cls ≠ "java/lang/invoke/MethodHandle") && decide ((mi_nm r).cls ≠ "java/lang/invoke/VarHandle") &&
  (decide ((mi_nm r).name = "law") || (decide (lw_tbl[p1]? = some (if mi_hh r = [] then .code (mi_nm r) (mi_by r) (mi_ml r) (mi_rt r) else .codeWith (mi_nm r) (mi_by r) (mi_ml r) (mi_rt r) (mi_hh r))) &&
  decide (lw_tbl[p2]? = some (.initialized (mi_nm r).cls)) && decide (lw_tbl[p3]? = some (if mi_st r = true then .static (mi_nm r) else .instanceMethod (mi_nm r))) &&
  (mi_st r || decide ((mi_nm r).name = "<init>") || decide (lw_tbl[p4]? = some (.selects (mi_nm r).cls (mi_nm r) (mi_nm r)))))) &&
  ((mi_hh r).zip (mi_hx r)).all (fun q => decide (q.2 < 3) && decide (q.1.2.2.2 ≠ 0) && (decide ((Cond.classLink (clsN (mi_cn r)) q.1.2.2.2 (exc q.2)) ∈ lw_tbl))) && decide ((mi_hh r).length = (mi_hx r).length)
set_option maxRecDepth 100000 in
theorem okm0 : okM2 mi0 217 28 216 0 = true := by decide +kernel
set_option maxRecDepth 100000 in
theorem okm1 : okM2 mi1 498 28 496 497 = true := by decide +kernel
set_option maxRecDepth 100000 in
theorem okm2 : okM2 mi2 532 28 530 531 = true := by decide +kernel
set_option maxRecDepth 100000 in
theorem okm3 : okM2 mi3 502 28 501 1 = true := by decide +kernel
set_option maxRecDepth 100000 in
theorem okm4 : okM2 mi4 508 28 507 0 = true := by decide +kernel
set_option maxRecDepth 100000 in
theorem okm5 : okM2 mi5 514 28 513 0 = true := by decide +kernel
set_option maxRecDepth 100000 in
theorem okm6 : okM2 mi6 520 28 519 0 = true := by decide +kernel
set_option maxRecDepth 100000 in
theorem okm7 : okM2 mi7 511 28 510 0 = true := by decide +kernel
set_option maxRecDepth 100000 in
theorem okm8 : okM2 mi8 517 28 516 0 = true := by decide +kernel
set_option maxRecDepth 100000 in
theorem okm9 : okM2 mi9 236 29 235 0 = true := by decide +kernel
set_option maxRecDepth 100000 in
theorem okm10 : okM2 mi10 737 29 735 736 = true := by decide +kernel
set_option maxRecDepth 100000 in
theorem okm11 : okM2 mi11 741 29 740 7 = true := by decide +kernel
set_option maxRecDepth 100000 in
theorem okm12 : okM2 mi12 745 29 744 8 = true := by decide +kernel
set_option maxRecDepth 100000 in
theorem okm13 : okM2 mi13 757 29 756 11 = true := by decide +kernel
set_option maxRecDepth 100000 in
theorem okm14 : okM2 mi14 813 29 812 0 = true := by decide +kernel
set_option maxRecDepth 100000 in
theorem okm15 : okM2 mi15 817 29 816 13 = true := by decide +kernel
set_option maxRecDepth 100000 in
theorem okm16 : okM2 mi16 821 29 820 14 = true := by decide +kernel
set_option maxRecDepth 100000 in
theorem okm17 : okM2 mi17 753 29 752 10 = true := by decide +kernel
set_option maxRecDepth 100000 in
theorem okm18 : okM2 mi18 762 29 761 12 = true := by decide +kernel
set_option maxRecDepth 100000 in
theorem okm19 : okM2 mi19 749 29 748 9 = true := by decide +kernel
set_option maxRecDepth 100000 in
theorem okm20 : okM2 mi20 286 32 285 0 = true := by decide +kernel
set_option maxRecDepth 100000 in
theorem okm21 : okM2 mi21 733 32 731 732 = true := by decide +kernel
set_option maxRecDepth 100000 in
theorem okm22 : okM2 mi22 859 32 857 858 = true := by decide +kernel
set_option maxRecDepth 100000 in
theorem okm23 : okM2 mi23 200 27 199 0 = true := by decide +kernel
set_option maxRecDepth 100000 in
theorem okm24 : okM2 mi24 538 27 536 537 = true := by decide +kernel
set_option maxRecDepth 100000 in
theorem okm26 : okM2 mi26 542 27 541 2 = true := by decide +kernel
set_option maxRecDepth 100000 in
theorem okm27 : okM2 mi27 66 23 65 0 = true := by decide +kernel
set_option maxRecDepth 100000 in
theorem okm28 : okM2 mi28 560 23 558 559 = true := by decide +kernel
set_option maxRecDepth 100000 in
theorem okm29 : okM2 mi29 596 23 594 595 = true := by decide +kernel
set_option maxRecDepth 100000 in
theorem okm30 : okM2 mi30 890 23 888 889 = true := by decide +kernel
set_option maxRecDepth 100000 in
theorem okm31 : okM2 mi31 725 23 723 724 = true := by decide +kernel
set_option maxRecDepth 100000 in
theorem okm32 : okM2 mi32 255 30 254 0 = true := by decide +kernel
set_option maxRecDepth 100000 in
theorem okm33 : okM2 mi33 832 30 830 831 = true := by decide +kernel
set_option maxRecDepth 100000 in
theorem okm34 : okM2 mi34 836 30 834 835 = true := by decide +kernel
set_option maxRecDepth 100000 in
theorem okm35 : okM2 mi35 840 30 839 15 = true := by decide +kernel
set_option maxRecDepth 100000 in
theorem okm36 : okM2 mi36 279 31 278 0 = true := by decide +kernel
set_option maxRecDepth 100000 in
theorem okm37 : okM2 mi37 848 31 846 847 = true := by decide +kernel
set_option maxRecDepth 100000 in
theorem okm38 : okM2 mi38 713 31 711 712 = true := by decide +kernel
set_option maxRecDepth 100000 in
theorem okm40 : okM2 mi40 717 31 716 5 = true := by decide +kernel
set_option maxRecDepth 100000 in
theorem okm41 : okM2 mi41 729 31 728 6 = true := by decide +kernel
set_option maxRecDepth 100000 in
theorem okm42 : okM2 mi42 844 31 843 16 = true := by decide +kernel
set_option maxRecDepth 100000 in
theorem okm44 : okM2 mi44 84 24 83 0 = true := by decide +kernel
set_option maxRecDepth 100000 in
theorem okm45 : okM2 mi45 568 24 566 567 = true := by decide +kernel
set_option maxRecDepth 100000 in
theorem okm46 : okM2 mi46 550 24 548 549 = true := by decide +kernel
set_option maxRecDepth 100000 in
theorem okm47 : okM2 mi47 56 22 55 0 = true := by decide +kernel
set_option maxRecDepth 100000 in
theorem okm48 : okM2 mi48 546 22 544 545 = true := by decide +kernel
set_option maxRecDepth 100000 in
theorem okm49 : okM2 mi49 721 22 719 720 = true := by decide +kernel
set_option maxRecDepth 100000 in
theorem okm50 : okM2 mi50 638 22 636 637 = true := by decide +kernel
set_option maxRecDepth 100000 in
theorem okm52 : okM2 mi52 129 25 128 0 = true := by decide +kernel
set_option maxRecDepth 100000 in
theorem okm53 : okM2 mi53 582 25 580 581 = true := by decide +kernel
set_option maxRecDepth 100000 in
theorem okm54 : okM2 mi54 555 25 553 554 = true := by decide +kernel
set_option maxRecDepth 100000 in
theorem okm56 : okM2 mi56 825 25 823 824 = true := by decide +kernel
set_option maxRecDepth 100000 in
theorem okm57 : okM2 mi57 48 21 47 0 = true := by decide +kernel
set_option maxRecDepth 100000 in
theorem okm58 : okM2 mi58 524 21 522 523 = true := by decide +kernel
set_option maxRecDepth 100000 in
theorem okm59 : okM2 mi59 576 21 574 575 = true := by decide +kernel
set_option maxRecDepth 100000 in
theorem okm60 : okM2 mi60 590 21 588 589 = true := by decide +kernel
set_option maxRecDepth 100000 in
theorem okm61 : okM2 mi61 629 21 627 628 = true := by decide +kernel
set_option maxRecDepth 100000 in
theorem okm62 : okM2 mi62 600 21 598 599 = true := by decide +kernel
set_option maxRecDepth 100000 in
theorem okm63 : okM2 mi63 634 21 632 633 = true := by decide +kernel
set_option maxRecDepth 100000 in
theorem okm64 : okM2 mi64 648 21 646 647 = true := by decide +kernel
set_option maxRecDepth 100000 in
theorem okm65 : okM2 mi65 895 21 893 894 = true := by decide +kernel
set_option maxRecDepth 100000 in
theorem okm66 : okM2 mi66 642 21 640 641 = true := by decide +kernel
set_option maxRecDepth 100000 in
theorem okm67 : okM2 mi67 405 21 403 404 = true := by decide +kernel
set_option maxRecDepth 100000 in
theorem okm68 : okM2 mi68 398 21 396 397 = true := by decide +kernel
set_option maxRecDepth 100000 in
theorem okm69 : okM2 mi69 493 21 491 492 = true := by decide +kernel
set_option maxRecDepth 100000 in
theorem okm71 : okM2 mi71 872 21 870 871 = true := by decide +kernel
set_option maxRecDepth 100000 in
theorem okm74 : okM2 mi74 863 21 861 862 = true := by decide +kernel
set_option maxRecDepth 100000 in
theorem okm75 : okM2 mi75 709 21 707 708 = true := by decide +kernel
set_option maxRecDepth 100000 in
theorem okm76 : okM2 mi76 854 21 852 853 = true := by decide +kernel
set_option maxRecDepth 100000 in
theorem okm77 : okM2 mi77 881 21 879 880 = true := by decide +kernel
set_option maxRecDepth 100000 in
theorem okm85 : okM2 mi85 527 21 526 0 = true := by decide +kernel
set_option maxRecDepth 100000 in
theorem okm86 : okM2 mi86 651 21 650 0 = true := by decide +kernel
set_option maxRecDepth 100000 in
theorem okm87 : okM2 mi87 655 21 654 0 = true := by decide +kernel
set_option maxRecDepth 100000 in
theorem okm88 : okM2 mi88 505 21 504 0 = true := by decide +kernel
set_option maxRecDepth 100000 in
theorem okm89 : okM2 mi89 604 21 603 3 = true := by decide +kernel
set_option maxRecDepth 100000 in
theorem okm90 : okM2 mi90 624 21 623 4 = true := by decide +kernel
set_option maxRecDepth 100000 in
theorem okm93 : okM2 mi93 877 21 876 18 = true := by decide +kernel
set_option maxRecDepth 100000 in
theorem okm95 : okM2 mi95 868 21 867 17 = true := by decide +kernel
set_option maxRecDepth 100000 in
theorem okm96 : okM2 mi96 886 21 885 19 = true := by decide +kernel
set_option maxRecDepth 100000 in
theorem okm184 : okM2 mi184 563 38 562 0 = true := by decide +kernel
set_option maxRecDepth 100000 in
theorem okm185 : okM2 mi185 766 40 764 765 = true := by decide +kernel
set_option maxRecDepth 100000 in
theorem okm186 : okM2 mi186 776 40 774 775 = true := by decide +kernel
set_option maxRecDepth 100000 in
theorem okm187 : okM2 mi187 770 40 768 769 = true := by decide +kernel
set_option maxRecDepth 100000 in
theorem okm188 : okM2 mi188 780 40 778 779 = true := by decide +kernel
set_option maxRecDepth 100000 in
theorem okm189 : okM2 mi189 786 40 785 0 = true := by decide +kernel
set_option maxRecDepth 100000 in
theorem okm190 : okM2 mi190 783 41 782 0 = true := by decide +kernel
set_option maxRecDepth 100000 in
theorem okm191 : okM2 mi191 791 42 790 0 = true := by decide +kernel
set_option maxRecDepth 100000 in
theorem okm192 : okM2 mi192 384 20 383 0 = true := by decide +kernel
set_option maxRecDepth 100000 in
theorem okm193 : okM2 mi193 391 20 390 0 = true := by decide +kernel
set_option maxRecDepth 100000 in
theorem okm194 : okM2 mi194 401 20 400 0 = true := by decide +kernel
set_option maxRecDepth 100000 in
theorem okm195 : okM2 mi195 394 20 393 0 = true := by decide +kernel
set_option maxRecDepth 100000 in
theorem okm196 : okM2 mi196 572 20 571 0 = true := by decide +kernel
set_option maxRecDepth 100000 in
theorem okm197 : okM2 mi197 586 20 585 0 = true := by decide +kernel
set_option maxRecDepth 100000 in
theorem okm198 : okM2 mi198 681 20 680 0 = true := by decide +kernel
set_option maxRecDepth 100000 in
theorem okm199 : okM2 mi199 693 20 692 0 = true := by decide +kernel
set_option maxRecDepth 100000 in
theorem okm200 : okM2 mi200 690 20 689 0 = true := by decide +kernel
set_option maxRecDepth 100000 in
theorem okm201 : okM2 mi201 696 20 695 0 = true := by decide +kernel
set_option maxRecDepth 100000 in
theorem okm202 : okM2 mi202 687 20 686 0 = true := by decide +kernel
set_option maxRecDepth 100000 in
theorem okm203 : okM2 mi203 705 20 704 0 = true := by decide +kernel
set_option maxRecDepth 100000 in
theorem okm204 : okM2 mi204 672 20 671 0 = true := by decide +kernel
set_option maxRecDepth 100000 in
theorem okm205 : okM2 mi205 669 20 668 0 = true := by decide +kernel
set_option maxRecDepth 100000 in
theorem okm206 : okM2 mi206 675 20 674 0 = true := by decide +kernel
set_option maxRecDepth 100000 in
theorem okm207 : okM2 mi207 666 20 665 0 = true := by decide +kernel
set_option maxRecDepth 100000 in
theorem okm208 : okM2 mi208 699 20 698 0 = true := by decide +kernel
set_option maxRecDepth 100000 in
theorem okm209 : okM2 mi209 684 20 683 0 = true := by decide +kernel
set_option maxRecDepth 100000 in
theorem okm210 : okM2 mi210 702 20 701 0 = true := by decide +kernel
set_option maxRecDepth 100000 in
theorem okm211 : okM2 mi211 678 20 677 0 = true := by decide +kernel
