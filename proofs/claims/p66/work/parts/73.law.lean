theorem dL_law_624 : decode cL_law 624 = .ok (.aload_n 1, 1) := by decide +kernel
theorem dL_law_625 : decode cL_law 625 = .ok (.aload_n 0, 1) := by decide +kernel
theorem dL_law_626 : decode cL_law 626 = .ok (.iload_n 3, 1) := by decide +kernel
theorem dL_law_627 : decode cL_law 627 = .ok (.iconst 1, 1) := by decide +kernel
theorem dL_law_628 : decode cL_law 628 = .ok (.iadd, 1) := by decide +kernel
theorem dL_law_629 : decode cL_law 629 = .ok (.iaload, 1) := by decide +kernel
theorem dL_law_630 : decode cL_law 630 = .ok (.aload_n 0, 1) := by decide +kernel
theorem dL_law_631 : decode cL_law 631 = .ok (.iload_n 3, 1) := by decide +kernel
theorem dL_law_632 : decode cL_law 632 = .ok (.iconst 2, 1) := by decide +kernel
theorem dL_law_633 : decode cL_law 633 = .ok (.iadd, 1) := by decide +kernel
theorem dL_law_634 : decode cL_law 634 = .ok (.iaload, 1) := by decide +kernel
set_option maxRecDepth 20000 in
theorem ggL_law_X10_doer : GoodIn wsL_law wsX10_doer := goodIn_s _ [(31, 2), (1, 0), (22, 2), (22, 3), (22, 4), (0, 2), (22, 5), (22, 0), (22, 6), (22, 7), (13, 8), (13, 9), (1, 15), (13, 10), (13, 11), (31, 3), (31, 4), (31, 5), (31, 6), (31, 7), (31, 8), (0, 23), (31, 9), (3, 16), (15, 16), (31, 10), (3, 14), (31, 11), (27, 21), (27, 22), (27, 23), (28, 0), (27, 5), (27, 6), (27, 7), (23, 1), (13, 18), (13, 19), (13, 20), (3, 9), (13, 7), (28, 1), (23, 8), (23, 9), (2, 16), (23, 10), (3, 0), (3, 5), (16, 2), (28, 2), (31, 12), (22, 13), (22, 14), (22, 15), (3, 3), (16, 19), (16, 20), (70, 0), (70, 1), (70, 2), (70, 3), (70, 4), (70, 5), (70, 6), (70, 7), (70, 8), (70, 9), (70, 10), (74, 0), (74, 1), (74, 2), (74, 3), (76, 0), (76, 1), (76, 2), (76, 3), (76, 4), (76, 5), (76, 6), (76, 7), (77, 0), (77, 1), (81, 0), (81, 1), (81, 2), (81, 3), (81, 4), (81, 5), (81, 6)] (by rfl) (by decide +kernel)
set_option maxRecDepth 20000 in
theorem gL_law_X10_doer : GoodIn wsL_law (wsV RL 65 RX10 yX10_doer wsX10_doer) := goodIn_app (goodIn_s _ [(32, 5), (31, 0), (31, 1), (0, 2)] (by rfl) (by decide +kernel)) ggL_law_X10_doer
theorem dL_law_635 : decode cL_law 635 = .ok (.invokevirtual 65, 3) := by decide +kernel
theorem dL_law_638 : decode cL_law 638 = .ok (.pop, 1) := by decide +kernel
theorem dL_law_639 : decode cL_law 639 = .ok (.aload_n 2, 1) := by decide +kernel
theorem dL_law_640 : decode cL_law 640 = .ok (.aload_n 0, 1) := by decide +kernel
theorem dL_law_641 : decode cL_law 641 = .ok (.iload_n 3, 1) := by decide +kernel
theorem dL_law_642 : decode cL_law 642 = .ok (.iconst 1, 1) := by decide +kernel
theorem dL_law_643 : decode cL_law 643 = .ok (.iadd, 1) := by decide +kernel
theorem dL_law_644 : decode cL_law 644 = .ok (.iaload, 1) := by decide +kernel
theorem dL_law_645 : decode cL_law 645 = .ok (.aload_n 0, 1) := by decide +kernel
theorem dL_law_646 : decode cL_law 646 = .ok (.iload_n 3, 1) := by decide +kernel
theorem dL_law_647 : decode cL_law 647 = .ok (.iconst 2, 1) := by decide +kernel
theorem dL_law_648 : decode cL_law 648 = .ok (.iadd, 1) := by decide +kernel
theorem dL_law_649 : decode cL_law 649 = .ok (.iaload, 1) := by decide +kernel
set_option maxRecDepth 20000 in
theorem ggL_law_X11_doer : GoodIn wsL_law wsX11_doer := goodIn_s _ [(32, 9), (6, 20), (31, 17), (31, 18), (31, 19), (0, 5), (31, 20), (23, 21), (23, 22), (23, 23), (24, 0), (5, 17), (7, 14), (7, 15), (7, 16), (31, 21), (31, 22), (31, 23), (32, 0), (24, 1), (24, 2), (24, 3), (24, 4), (5, 19), (24, 5), (24, 6), (24, 7), (24, 8), (5, 21), (5, 22), (5, 23), (23, 20), (24, 9), (24, 10), (24, 11), (24, 12), (24, 13), (24, 14), (24, 15), (5, 18), (24, 16), (24, 17), (24, 18), (24, 19), (24, 20), (24, 21), (24, 22), (24, 23), (25, 0), (25, 1), (25, 2), (25, 3), (25, 4), (25, 5), (25, 6), (25, 7), (25, 8), (25, 9), (25, 10), (32, 1), (32, 2), (32, 3), (32, 4), (28, 11), (28, 12), (28, 13), (28, 14), (71, 0), (71, 1), (71, 2), (71, 3), (71, 4), (71, 5), (71, 6), (71, 7), (71, 8), (71, 9), (71, 10), (71, 11), (71, 12), (71, 13), (71, 14), (71, 15), (71, 16), (71, 17), (71, 18), (71, 19), (71, 20), (71, 21), (71, 22), (71, 23), (71, 24), (71, 25), (71, 26), (71, 27), (71, 28), (71, 29), (71, 30)] (by rfl) (by decide +kernel)
set_option maxRecDepth 20000 in
theorem gL_law_X11_doer : GoodIn wsL_law (wsV RL 68 RX11 yX11_doer wsX11_doer) := goodIn_app (goodIn_s _ [(32, 6), (32, 7), (32, 8), (0, 5)] (by rfl) (by decide +kernel)) ggL_law_X11_doer
theorem dL_law_650 : decode cL_law 650 = .ok (.invokevirtual 68, 3) := by decide +kernel
theorem dL_law_653 : decode cL_law 653 = .ok (.pop, 1) := by decide +kernel
theorem dL_law_654 : decode cL_law 654 = .ok (.goto 1479, 3) := by decide +kernel
theorem dL_law_657 : decode cL_law 657 = .ok (.aload_n 1, 1) := by decide +kernel
theorem dL_law_658 : decode cL_law 658 = .ok (.aload_n 0, 1) := by decide +kernel
theorem dL_law_659 : decode cL_law 659 = .ok (.iload_n 3, 1) := by decide +kernel
theorem dL_law_660 : decode cL_law 660 = .ok (.iconst 1, 1) := by decide +kernel
theorem dL_law_661 : decode cL_law 661 = .ok (.iadd, 1) := by decide +kernel
theorem dL_law_662 : decode cL_law 662 = .ok (.iaload, 1) := by decide +kernel
theorem dL_law_663 : decode cL_law 663 = .ok (.aload_n 0, 1) := by decide +kernel
theorem dL_law_664 : decode cL_law 664 = .ok (.iload_n 3, 1) := by decide +kernel
theorem dL_law_665 : decode cL_law 665 = .ok (.iconst 2, 1) := by decide +kernel
theorem dL_law_666 : decode cL_law 666 = .ok (.iadd, 1) := by decide +kernel
theorem dL_law_667 : decode cL_law 667 = .ok (.iaload, 1) := by decide +kernel
theorem dL_law_668 : decode cL_law 668 = .ok (.aload_n 0, 1) := by decide +kernel
theorem dL_law_669 : decode cL_law 669 = .ok (.iload_n 3, 1) := by decide +kernel
theorem dL_law_670 : decode cL_law 670 = .ok (.iconst 3, 1) := by decide +kernel
theorem dL_law_671 : decode cL_law 671 = .ok (.iadd, 1) := by decide +kernel
theorem dL_law_672 : decode cL_law 672 = .ok (.iaload, 1) := by decide +kernel
set_option maxRecDepth 20000 in
theorem ggL_law_X10_asked : GoodIn wsL_law wsX10_asked := goodIn_s _ [(32, 13), (30, 23), (31, 0), (31, 1), (0, 2), (31, 2), (1, 0), (22, 2), (22, 3), (22, 4), (22, 5), (22, 0), (22, 6), (22, 7), (13, 8), (13, 9), (1, 15), (13, 10), (13, 11), (31, 3), (31, 4), (31, 5), (31, 6), (31, 7), (31, 8), (0, 23), (31, 9), (3, 16), (15, 16), (31, 10), (3, 14), (31, 11), (27, 21), (27, 22), (27, 23), (28, 0), (27, 5), (27, 6), (27, 7), (23, 1), (13, 18), (13, 19), (13, 20), (3, 9), (13, 7), (28, 1), (23, 8), (23, 9), (2, 16), (23, 10), (3, 0), (3, 5), (16, 2), (28, 2), (31, 12), (22, 13), (22, 14), (22, 15), (3, 3), (16, 19), (16, 20), (22, 16), (22, 17), (22, 18), (22, 19), (32, 14), (32, 15), (32, 16), (32, 17), (32, 18), (70, 0), (70, 1), (70, 2), (70, 3), (70, 4), (70, 5), (70, 6), (70, 7), (70, 8), (70, 9), (70, 10), (74, 0), (74, 1), (74, 2), (74, 3), (76, 0), (76, 1), (76, 2), (76, 3), (76, 4), (76, 5), (76, 6), (76, 7), (77, 0), (77, 1), (81, 0), (81, 1), (81, 2), (81, 3), (81, 4), (81, 5), (81, 6)] (by rfl) (by decide +kernel)
set_option maxRecDepth 20000 in
theorem gL_law_X10_asked : GoodIn wsL_law (wsV RL 69 RX10 yX10_asked wsX10_asked) := goodIn_app (goodIn_s _ [(32, 10), (32, 11), (32, 12), (0, 2)] (by rfl) (by decide +kernel)) ggL_law_X10_asked
theorem dL_law_673 : decode cL_law 673 = .ok (.invokevirtual 69, 3) := by decide +kernel
theorem dL_law_676 : decode cL_law 676 = .ok (.pop, 1) := by decide +kernel
theorem dL_law_677 : decode cL_law 677 = .ok (.aload_n 2, 1) := by decide +kernel
theorem dL_law_678 : decode cL_law 678 = .ok (.aload_n 0, 1) := by decide +kernel
theorem dL_law_679 : decode cL_law 679 = .ok (.iload_n 3, 1) := by decide +kernel
theorem dL_law_680 : decode cL_law 680 = .ok (.iconst 1, 1) := by decide +kernel
theorem dL_law_681 : decode cL_law 681 = .ok (.iadd, 1) := by decide +kernel
theorem dL_law_682 : decode cL_law 682 = .ok (.iaload, 1) := by decide +kernel
theorem dL_law_683 : decode cL_law 683 = .ok (.aload_n 0, 1) := by decide +kernel
theorem dL_law_684 : decode cL_law 684 = .ok (.iload_n 3, 1) := by decide +kernel
theorem dL_law_685 : decode cL_law 685 = .ok (.iconst 2, 1) := by decide +kernel
theorem dL_law_686 : decode cL_law 686 = .ok (.iadd, 1) := by decide +kernel
theorem dL_law_687 : decode cL_law 687 = .ok (.iaload, 1) := by decide +kernel
theorem dL_law_688 : decode cL_law 688 = .ok (.aload_n 0, 1) := by decide +kernel
theorem dL_law_689 : decode cL_law 689 = .ok (.iload_n 3, 1) := by decide +kernel
theorem dL_law_690 : decode cL_law 690 = .ok (.iconst 3, 1) := by decide +kernel
theorem dL_law_691 : decode cL_law 691 = .ok (.iadd, 1) := by decide +kernel
theorem dL_law_692 : decode cL_law 692 = .ok (.iaload, 1) := by decide +kernel
set_option maxRecDepth 20000 in
theorem ggL_law_X11_asked : GoodIn wsL_law wsX11_asked := goodIn_s _ [(32, 22), (6, 20), (5, 21), (31, 17), (31, 18), (31, 19), (0, 5), (31, 20), (23, 21), (23, 22), (23, 23), (24, 0), (5, 17), (7, 14), (7, 15), (7, 16), (31, 21), (31, 22), (31, 23), (32, 0), (24, 1), (24, 2), (24, 3), (24, 4), (5, 19), (24, 5), (24, 6), (24, 7), (24, 8), (5, 22), (5, 23), (23, 20), (24, 9), (24, 10), (24, 11), (24, 12), (24, 13), (24, 14), (24, 15), (5, 18), (24, 16), (24, 17), (24, 18), (24, 19), (24, 20), (24, 21), (24, 22), (24, 23), (25, 0), (25, 1), (25, 2), (25, 3), (25, 4), (25, 5), (25, 6), (25, 7), (25, 8), (25, 9), (25, 10), (32, 1), (32, 2), (32, 3), (32, 4), (28, 11), (28, 12), (28, 13), (28, 14), (71, 0), (71, 1), (71, 2), (71, 3), (71, 4), (71, 5), (71, 6), (71, 7), (71, 8), (71, 9), (71, 10), (71, 11), (71, 12), (71, 13), (71, 14), (71, 15), (71, 16), (71, 17), (71, 18), (71, 19), (71, 20), (71, 21), (71, 22), (71, 23), (71, 24), (71, 25), (71, 26), (71, 27), (71, 28), (71, 29), (71, 30)] (by rfl) (by decide +kernel)
set_option maxRecDepth 20000 in
theorem gL_law_X11_asked : GoodIn wsL_law (wsV RL 73 RX11 yX11_asked wsX11_asked) := goodIn_app (goodIn_s _ [(32, 19), (32, 20), (32, 21), (0, 5)] (by rfl) (by decide +kernel)) ggL_law_X11_asked
theorem dL_law_693 : decode cL_law 693 = .ok (.invokevirtual 73, 3) := by decide +kernel
theorem dL_law_696 : decode cL_law 696 = .ok (.pop, 1) := by decide +kernel
theorem dL_law_697 : decode cL_law 697 = .ok (.goto 1436, 3) := by decide +kernel
theorem dL_law_700 : decode cL_law 700 = .ok (.aload_n 1, 1) := by decide +kernel
theorem dL_law_701 : decode cL_law 701 = .ok (.aload_n 0, 1) := by decide +kernel
theorem dL_law_702 : decode cL_law 702 = .ok (.iload_n 3, 1) := by decide +kernel
theorem dL_law_703 : decode cL_law 703 = .ok (.iconst 1, 1) := by decide +kernel
theorem dL_law_704 : decode cL_law 704 = .ok (.iadd, 1) := by decide +kernel
theorem dL_law_705 : decode cL_law 705 = .ok (.iaload, 1) := by decide +kernel
set_option maxRecDepth 20000 in
theorem ggL_law_X10_can : GoodIn wsL_law wsX10_can := goodIn_s _ [(33, 2), (1, 0), (1, 11), (22, 2), (22, 3), (22, 4), (0, 2), (22, 5), (22, 0), (22, 6), (22, 7), (13, 8), (13, 9), (1, 15), (13, 10), (13, 11), (23, 2), (23, 3), (23, 4), (2, 16), (23, 5), (3, 0), (3, 4), (16, 2), (22, 16), (22, 17), (22, 18), (22, 19), (27, 0), (27, 1), (27, 2), (27, 3), (27, 4), (27, 5), (27, 6), (27, 7), (23, 1), (13, 18), (13, 19), (13, 20), (3, 9), (13, 7), (33, 3), (33, 4), (33, 5), (33, 6), (8, 11), (16, 19), (16, 20), (33, 7), (22, 13), (22, 14), (22, 15), (3, 3), (70, 0), (70, 1), (70, 2), (70, 3), (70, 4), (70, 5), (70, 6), (70, 7), (70, 8), (70, 9), (70, 10), (74, 0), (74, 1), (74, 2), (74, 3), (76, 0), (76, 1), (76, 2), (76, 3), (76, 4), (76, 5), (76, 6), (76, 7), (77, 0), (77, 1), (81, 0), (81, 1), (81, 2), (81, 3), (81, 4), (81, 5), (81, 6)] (by rfl) (by decide +kernel)
set_option maxRecDepth 20000 in
theorem gL_law_X10_can : GoodIn wsL_law (wsV RL 74 RX10 yX10_can wsX10_can) := goodIn_app (goodIn_s _ [(32, 23), (33, 0), (33, 1), (0, 2)] (by rfl) (by decide +kernel)) ggL_law_X10_can
theorem dL_law_706 : decode cL_law 706 = .ok (.invokevirtual 74, 3) := by decide +kernel
theorem dL_law_709 : decode cL_law 709 = .ok (.pop, 1) := by decide +kernel
theorem dL_law_710 : decode cL_law 710 = .ok (.aload_n 2, 1) := by decide +kernel
theorem dL_law_711 : decode cL_law 711 = .ok (.aload_n 0, 1) := by decide +kernel
theorem dL_law_712 : decode cL_law 712 = .ok (.iload_n 3, 1) := by decide +kernel
theorem dL_law_713 : decode cL_law 713 = .ok (.iconst 1, 1) := by decide +kernel
theorem dL_law_714 : decode cL_law 714 = .ok (.iadd, 1) := by decide +kernel
theorem dL_law_715 : decode cL_law 715 = .ok (.iaload, 1) := by decide +kernel
set_option maxRecDepth 20000 in
theorem ggL_law_X11_can : GoodIn wsL_law wsX11_can := goodIn_s _ [(33, 11), (6, 20), (23, 21), (23, 22), (23, 23), (0, 5), (24, 0), (5, 17), (7, 14), (7, 15), (7, 16), (24, 1), (24, 2), (24, 3), (24, 4), (5, 19), (24, 5), (24, 6), (24, 7), (24, 8), (5, 21), (5, 22), (5, 23), (23, 20), (24, 9), (24, 10), (24, 11), (24, 12), (24, 13), (24, 14), (24, 15), (5, 18), (24, 16), (24, 17), (24, 18), (24, 19), (24, 20), (24, 21), (24, 22), (24, 23), (25, 0), (25, 1), (25, 2), (25, 3), (25, 4), (25, 5), (25, 6), (25, 7), (25, 8), (25, 9), (25, 10), (32, 1), (32, 2), (32, 3), (32, 4), (28, 11), (28, 12), (28, 13), (28, 14), (71, 0), (71, 1), (71, 2), (71, 3), (71, 4), (71, 5), (71, 6), (71, 7), (71, 8), (71, 9), (71, 10), (71, 11), (71, 12), (71, 13), (71, 14), (71, 15), (71, 16), (71, 17), (71, 18), (71, 19), (71, 20), (71, 21), (71, 22), (71, 23), (71, 24), (71, 25), (71, 26), (71, 27), (71, 28), (71, 29), (71, 30)] (by rfl) (by decide +kernel)
set_option maxRecDepth 20000 in
theorem gL_law_X11_can : GoodIn wsL_law (wsV RL 77 RX11 yX11_can wsX11_can) := goodIn_app (goodIn_s _ [(33, 8), (33, 9), (33, 10), (0, 5)] (by rfl) (by decide +kernel)) ggL_law_X11_can
theorem dL_law_716 : decode cL_law 716 = .ok (.invokevirtual 77, 3) := by decide +kernel
theorem dL_law_719 : decode cL_law 719 = .ok (.pop, 1) := by decide +kernel
theorem dL_law_720 : decode cL_law 720 = .ok (.goto 1413, 3) := by decide +kernel
theorem dL_law_723 : decode cL_law 723 = .ok (.aload_n 1, 1) := by decide +kernel
theorem dL_law_724 : decode cL_law 724 = .ok (.aload_n 0, 1) := by decide +kernel
theorem dL_law_725 : decode cL_law 725 = .ok (.iload_n 3, 1) := by decide +kernel
theorem dL_law_726 : decode cL_law 726 = .ok (.iconst 1, 1) := by decide +kernel
theorem dL_law_727 : decode cL_law 727 = .ok (.iadd, 1) := by decide +kernel
theorem dL_law_728 : decode cL_law 728 = .ok (.iaload, 1) := by decide +kernel
theorem dL_law_729 : decode cL_law 729 = .ok (.aload_n 0, 1) := by decide +kernel
theorem dL_law_730 : decode cL_law 730 = .ok (.iload_n 3, 1) := by decide +kernel
theorem dL_law_731 : decode cL_law 731 = .ok (.iconst 2, 1) := by decide +kernel
theorem dL_law_732 : decode cL_law 732 = .ok (.iadd, 1) := by decide +kernel
theorem dL_law_733 : decode cL_law 733 = .ok (.iaload, 1) := by decide +kernel
theorem dL_law_734 : decode cL_law 734 = .ok (.aload_n 0, 1) := by decide +kernel
theorem dL_law_735 : decode cL_law 735 = .ok (.iload_n 3, 1) := by decide +kernel
theorem dL_law_736 : decode cL_law 736 = .ok (.iconst 3, 1) := by decide +kernel
theorem dL_law_737 : decode cL_law 737 = .ok (.iadd, 1) := by decide +kernel
theorem dL_law_738 : decode cL_law 738 = .ok (.iaload, 1) := by decide +kernel
set_option maxRecDepth 20000 in
theorem ggL_law_X10_why : GoodIn wsL_law wsX10_why := goodIn_s _ [(33, 15), (1, 0), (22, 0), (22, 2), (22, 3), (22, 4), (0, 2), (22, 5), (22, 6), (22, 7), (13, 8), (13, 9), (1, 15), (13, 10), (13, 11), (31, 3), (31, 4), (31, 5), (33, 16), (33, 17), (33, 18), (1, 10), (33, 19), (4, 2), (33, 20), (33, 21), (33, 22), (33, 23), (3, 23), (15, 6), (16, 9), (13, 18), (13, 19), (13, 20), (3, 9), (13, 7), (16, 19), (16, 20), (34, 0), (22, 13), (22, 14), (2, 16), (22, 15), (3, 0), (3, 3), (16, 2), (70, 0), (70, 1), (70, 2), (70, 3), (70, 4), (70, 5), (70, 6), (70, 7), (70, 8), (70, 9), (70, 10), (74, 0), (74, 1), (74, 2), (74, 3), (76, 0), (76, 1), (76, 2), (76, 3), (76, 4), (76, 5), (76, 6), (76, 7), (77, 0), (77, 1), (81, 0), (81, 1), (81, 2), (81, 3), (81, 4), (81, 5), (81, 6)] (by rfl) (by decide +kernel)
set_option maxRecDepth 20000 in
theorem gL_law_X10_why : GoodIn wsL_law (wsV RL 78 RX10 yX10_why wsX10_why) := goodIn_app (goodIn_s _ [(33, 12), (33, 13), (33, 14), (0, 2)] (by rfl) (by decide +kernel)) ggL_law_X10_why
theorem dL_law_739 : decode cL_law 739 = .ok (.invokevirtual 78, 3) := by decide +kernel
theorem dL_law_742 : decode cL_law 742 = .ok (.pop, 1) := by decide +kernel
theorem dL_law_743 : decode cL_law 743 = .ok (.aload_n 2, 1) := by decide +kernel
theorem dL_law_744 : decode cL_law 744 = .ok (.aload_n 0, 1) := by decide +kernel
theorem dL_law_745 : decode cL_law 745 = .ok (.iload_n 3, 1) := by decide +kernel
theorem dL_law_746 : decode cL_law 746 = .ok (.iconst 1, 1) := by decide +kernel
theorem dL_law_747 : decode cL_law 747 = .ok (.iadd, 1) := by decide +kernel
theorem dL_law_748 : decode cL_law 748 = .ok (.iaload, 1) := by decide +kernel
theorem dL_law_749 : decode cL_law 749 = .ok (.aload_n 0, 1) := by decide +kernel
theorem dL_law_750 : decode cL_law 750 = .ok (.iload_n 3, 1) := by decide +kernel
theorem dL_law_751 : decode cL_law 751 = .ok (.iconst 2, 1) := by decide +kernel
theorem dL_law_752 : decode cL_law 752 = .ok (.iadd, 1) := by decide +kernel
theorem dL_law_753 : decode cL_law 753 = .ok (.iaload, 1) := by decide +kernel
theorem dL_law_754 : decode cL_law 754 = .ok (.aload_n 0, 1) := by decide +kernel
theorem dL_law_755 : decode cL_law 755 = .ok (.iload_n 3, 1) := by decide +kernel
theorem dL_law_756 : decode cL_law 756 = .ok (.iconst 3, 1) := by decide +kernel
theorem dL_law_757 : decode cL_law 757 = .ok (.iadd, 1) := by decide +kernel
theorem dL_law_758 : decode cL_law 758 = .ok (.iaload, 1) := by decide +kernel
set_option maxRecDepth 20000 in
theorem ggL_law_X11_why : GoodIn wsL_law wsX11_why := goodIn_s _ [(34, 4), (6, 20), (28, 7), (28, 8), (28, 9), (0, 5), (28, 10), (23, 21), (23, 22), (23, 23), (24, 0), (5, 17), (7, 14), (7, 15), (7, 16), (31, 21), (31, 22), (31, 23), (32, 0), (24, 1), (24, 2), (24, 3), (24, 4), (5, 19), (24, 5), (24, 6), (24, 7), (24, 8), (5, 21), (5, 22), (5, 23), (23, 20), (24, 9), (24, 10), (24, 11), (24, 12), (24, 13), (24, 14), (24, 15), (5, 18), (24, 16), (24, 17), (24, 18), (24, 19), (24, 20), (24, 21), (24, 22), (24, 23), (25, 0), (25, 1), (25, 2), (25, 3), (25, 4), (25, 5), (25, 6), (25, 7), (25, 8), (25, 9), (25, 10), (34, 5), (34, 6), (34, 7), (34, 8), (71, 0), (71, 1), (71, 2), (71, 3), (71, 4), (71, 5), (71, 6), (71, 7), (71, 8), (71, 9), (71, 10), (71, 11), (71, 12), (71, 13), (71, 14), (71, 15), (71, 16), (71, 17), (71, 18), (71, 19), (71, 20), (71, 21), (71, 22), (71, 23), (71, 24), (71, 25), (71, 26), (71, 27), (71, 28), (71, 29), (71, 30)] (by rfl) (by decide +kernel)
set_option maxRecDepth 20000 in
theorem gL_law_X11_why : GoodIn wsL_law (wsV RL 81 RX11 yX11_why wsX11_why) := goodIn_app (goodIn_s _ [(34, 1), (34, 2), (34, 3), (0, 5)] (by rfl) (by decide +kernel)) ggL_law_X11_why
theorem dL_law_759 : decode cL_law 759 = .ok (.invokevirtual 81, 3) := by decide +kernel
theorem dL_law_762 : decode cL_law 762 = .ok (.pop, 1) := by decide +kernel
theorem dL_law_763 : decode cL_law 763 = .ok (.goto 1370, 3) := by decide +kernel
set_option maxHeartbeats 8000000 in
set_option maxRecDepth 100000 in
theorem law_c12 {p : Program} {e : Env} {s : State} {m : MethodId} {below : List Frame} {meth : Method} {c : Code} (l : Launch) {b L : Nat} {xs : Nat → Int32} (C0 : lw_At p s m meth c b L xs) (hL : L ≤ 3072) (k : Nat) (hk6 : k + 6 ≤ L) (G : va_G) (ct : Nat → ClassId) (a rr bm adK adV : Nat → Nat) (v : Nat → Nat → Int32) (f : Nat → Nat → Int32) (g : Nat → Nat → Int64) (v2 : Nat → Nat → Int32) (f2 : Nat → Nat → Int32) (g2 : Nat → Nat → Int64) (H : Heap) (locs : List Loc) (hK : KK G ct s) (hZ : SS adK adV (fun q : Nat => s.heap.size ≤ q) s s.heap) (hD0 : va_D (fun q : Nat => s.heap.size ≤ q) (xW a rr ct (fun _ _ => 0) (fun _ _ => 0) (fun _ _ => 0))) (hE0 : va_D (fun q : Nat => s.heap.size ≤ q) (mW bm ct (fun _ _ => 0) (fun _ _ => 0) (fun _ _ => 0))) (hap0 : wset a rr bm ct) (hIx : XI v f g) (hIm : MI v2 f2 g2) (hR : REL v f g v2 f2 g2) (hPx : va_P G vwCl (xW a rr ct v f g) H) (hPm : va_P G vwCl (mW bm ct v2 f2 g2) H) (hS : va_S (fun q : Nat => s.heap.size ≤ q) s.heap H locs) (ls : Array Slot) (hl : lv_has ls 4 [(3, .int (nI k)), (2, .ref (bm 0)), (1, .ref (a 0)), (0, .ref b)]) (kk : ∀ (v : Nat → Nat → Int32) (f : Nat → Nat → Int32) (g : Nat → Nat → Int64) (v2 : Nat → Nat → Int32) (f2 : Nat → Nat → Int32) (g2 : Nat → Nat → Int64) (H : Heap) (locs : List Loc) (ls : Array Slot), XI v f g → MI v2 f2 g2 → REL v f g v2 f2 g2 → va_P G vwCl (xW a rr ct v f g) H → va_P G vwCl (mW bm ct v2 f2 g2) H → va_S (fun q : Nat => s.heap.size ≤ q) s.heap H locs → lv_has ls 4 [(3, .int (nI k)), (2, .ref (bm 0)), (1, .ref (a 0)), (0, .ref b)] → W p l e room_1 s m #[Value.ref b] below meth c H locs 110 5410 (lw_Z below #[Value.ref b] s) (F0 m 2133 ls [])) : W p l e room_1 s m #[Value.ref b] below meth c H locs 110 5410 (lw_Z below #[Value.ref b] s) (F0 m 624 ls []) := by
  obtain ⟨hx, hb, hr, hml, hown, hts, hX, hbl, hlocks, hgv⟩ := C0
  have hown : s.vm.findClass RL = some m.cls := hown
  have hts : ∀ z ∈ wsL_law, z.before #[Value.ref b] s = true := fun z h => hts z (wsL_law_in z h)
  have hbA : ¬ (fun q : Nat => s.heap.size ≤ q) b := Nat.not_le.mpr hbl
  have hDx : va_D (fun q : Nat => s.heap.size ≤ q) (xW a rr ct v f g) := hD0.ad (xW_ad ..)
  have hDm : va_D (fun q : Nat => s.heap.size ≤ q) (mW bm ct v2 f2 g2) := hE0.ad (mW_ad ..)
  have hap : ∀ q, aset (xW a rr ct v f g) q → ¬ aset (mW bm ct v2 f2 g2) q := fun q h1 h2 => hap0 q (aset_ad (xW_ad ..) h1) (aset_ad (mW_ad ..) h2)
  refine lv_aload_n hx hb dL_law_624 rfl (lv_at hl 2 rfl) ?_
  refine lv_aload_n hx hb dL_law_625 rfl (lv_at hl 3 rfl) ?_
  refine lv_iload_n hx hb dL_law_626 rfl (lv_at hl 0 rfl) ?_
  refine lv_iconst (v := 1) hx hb dL_law_627 (by decide) ?_
  refine lv_iadd hx hb dL_law_628 ?_
  refine ix_i (y := nI (k + 1)) (nI_add k 1) ?_
  refine va_sld hx hb hX hbl hbA hS (vp_in_nI (n := k + 1) (by omega) (by omega)) dL_law_629 ?_
  refine lv_aload_n hx hb dL_law_630 rfl (lv_at hl 3 rfl) ?_
  refine lv_iload_n hx hb dL_law_631 rfl (lv_at hl 0 rfl) ?_
  refine lv_iconst (v := 2) hx hb dL_law_632 (by decide) ?_
  refine lv_iadd hx hb dL_law_633 ?_
  refine ix_i (y := nI (k + 2)) (nI_add k 2) ?_
  refine va_sld hx hb hX hbl hbA hS (vp_in_nI (n := k + 2) (by omega) (by omega)) dL_law_634 ?_
  refine ro_calli (va_runV (As := [.int (xs (nI (k + 1)).toNatClampNeg), .int (xs (nI (k + 2)).toNatClampNeg)]) (rest := []) ⟨hx, hb, hml, hown, hts⟩ (a_X10_doer l G ct (a 0) (a 1) (a 3) (a 11) (a 25) (a 68) (a 69) (a 77) (a 82) (a 84) (a 88) (a 91) (a 12) (a 19) (a 24) (v 11 3) (a 13) (a 15) (a 16) (a 17) (a 18) (v 12 5) (v 12 6) (a 14) (v 13 1) (f 16) (f 18) (a 20) (a 22) (a 23) (v 19 4) (v 19 5) (v 19 6) (v 19 7) (a 21) (v 20 1) (f 21) (xs (nI (k + 1)).toNatClampNeg) (xs (nI (k + 2)).toNatClampNeg) hIx.2.2.1 hIx.2.2.2.1) (cwV 2 hts gL_law_X10_doer rfl rfl rfl (by decide +kernel) ⟨Nat.le_of_ble_eq_true rfl, Nat.le_of_ble_eq_true rfl⟩) (ro_preV 10 0 hK (hPx.sub [0, 11, 12, 13, 16, 18, 19, 20, 21] rfl) rfl rfl) rfl rfl hl.1 rfl (lv_room (Nat.le_of_ble_eq_true rfl)) dL_law_635 ⟨Nat.le_of_ble_eq_true rfl, Nat.le_of_ble_eq_true rfl⟩) hS (hPx.app hPm) (fun r1 H locs wr1 hPP hS => ?_)
  have hPx := va_P.left hPP
  have hPm := va_P.right hPP
  obtain ⟨r1p0, r1p1, r1p2, r1p3, r1p4, r1p5, r1p6, r1p7, r1p8, r1p9, -⟩ := wr1
  refine lv_pop hx hb dL_law_638 rfl ?_
  refine lv_aload_n hx hb dL_law_639 rfl (lv_at hl 1 rfl) ?_
  refine lv_aload_n hx hb dL_law_640 rfl (lv_at hl 3 rfl) ?_
  refine lv_iload_n hx hb dL_law_641 rfl (lv_at hl 0 rfl) ?_
  refine lv_iconst (v := 1) hx hb dL_law_642 (by decide) ?_
  refine lv_iadd hx hb dL_law_643 ?_
  refine ix_i (y := nI (k + 1)) (nI_add k 1) ?_
  refine va_sld hx hb hX hbl hbA hS (vp_in_nI (n := k + 1) (by omega) (by omega)) dL_law_644 ?_
  refine lv_aload_n hx hb dL_law_645 rfl (lv_at hl 3 rfl) ?_
  refine lv_iload_n hx hb dL_law_646 rfl (lv_at hl 0 rfl) ?_
  refine lv_iconst (v := 2) hx hb dL_law_647 (by decide) ?_
  refine lv_iadd hx hb dL_law_648 ?_
  refine ix_i (y := nI (k + 2)) (nI_add k 2) ?_
  refine va_sld hx hb hX hbl hbA hS (vp_in_nI (n := k + 2) (by omega) (by omega)) dL_law_649 ?_
  refine lw_callx (w1 := (fun u : SU => [((bm 0), .inr (11, [.int (u.1 0), .ref (bm 1), .ref (bm 2), .ref (bm 3), .ref (bm 4), .ref (bm 5), .int (v2 0 6), .int (v2 0 7), .int (v2 0 8), .int (v2 0 9), .int (v2 0 10), .long (g2 0 11), .int (v2 0 12), .int (v2 0 13), .int (v2 0 14), .int (v2 0 15), .ref (bm 6), .ref (bm 7), .ref (bm 8), .ref (bm 9), .ref (bm 10), .ref (bm 11), .ref (bm 12), .ref (bm 13), .int (u.1 1), .int (u.1 2), .int (u.1 3), .int (u.1 4), .ref (bm 14), .int (v2 0 29), .int (v2 0 30)])), ((bm 7), .inl (ct 0, 15, .inl (f2 7))), ((bm 8), .inl (ct 0, 200, .inl (f2 8))), ((bm 9), .inl (ct 0, 1000, .inl (f2 9))), ((bm 11), .inl (ct 0, 8, .inl (u.2.1 0))), ((bm 12), .inl (ct 0, 8, .inl (u.2.1 1))), ((bm 13), .inl (ct 0, 8, .inl (u.2.1 2)))])) (va_runV (As := [.int (xs (nI (k + 1)).toNatClampNeg), .int (xs (nI (k + 2)).toNatClampNeg)]) (rest := []) ⟨hx, hb, hml, hown, hts⟩ (a_X11_doer l G ct (bm 0) (v2 0 0) (bm 1) (bm 2) (bm 3) (bm 4) (bm 5) (v2 0 6) (v2 0 7) (v2 0 8) (v2 0 9) (v2 0 10) (g2 0 11) (v2 0 12) (v2 0 13) (v2 0 14) (v2 0 15) (bm 6) (bm 7) (bm 8) (bm 9) (bm 10) (bm 11) (bm 12) (bm 13) (v2 0 24) (v2 0 25) (v2 0 26) (v2 0 27) (bm 14) (v2 0 29) (v2 0 30) (f2 7) (f2 8) (f2 9) (f2 11) (f2 12) (f2 13) (xs (nI (k + 1)).toNatClampNeg) (xs (nI (k + 2)).toNatClampNeg) hIm.2.1 hIm.2.2.1 hIm.2.2.2.1 hIm.2.2.2.2.1 hIm.2.2.2.2.2.1 hIm.2.2.2.2.2.2.1) (cwV 2 hts gL_law_X11_doer rfl rfl rfl (by decide +kernel) ⟨Nat.le_of_ble_eq_true rfl, Nat.le_of_ble_eq_true rfl⟩) (wr_preV 11 0 hK (hPm.sub [0, 7, 8, 9, 11, 12, 13] rfl) (hDm.sub [0, 7, 8, 9, 11, 12, 13] (by decide) rfl) rfl rfl) rfl rfl hl.1 rfl (lv_room (Nat.le_of_ble_eq_true rfl)) dL_law_650 ⟨Nat.le_of_ble_eq_true rfl, Nat.le_of_ble_eq_true rfl⟩) hS hPm hDm hPx (fun q h1 h2 => hap q h2 h1) [0, 7, 8, 9, 11, 12, 13] rfl (fun r2 u2 H locs wr2 hPx hF hS => ?_)
  obtain ⟨r2p0, r2p1, r2p2, r2p3, r2p4, r2p5, r2p6, r2p7, r2p8, r2p9, -⟩ := wr2
  have hPm : va_P G vwCl (mW bm ct (uv v2 [(0, 0, u2.1 0), (0, 24, u2.1 1), (0, 25, u2.1 2), (0, 26, u2.1 3), (0, 27, u2.1 4)]) (uf f2 [(11, u2.2.1 0), (12, u2.2.1 1), (13, u2.2.1 2)]) g2) H := hF (mW bm ct (uv v2 [(0, 0, u2.1 0), (0, 24, u2.1 1), (0, 25, u2.1 2), (0, 26, u2.1 3), (0, 27, u2.1 4)]) (uf f2 [(11, u2.2.1 0), (12, u2.2.1 1), (13, u2.2.1 2)]) g2) rfl (fun k9 hk9 => mW_same bm ct v2 (uv v2 [(0, 0, u2.1 0), (0, 24, u2.1 1), (0, 25, u2.1 2), (0, 26, u2.1 3), (0, 27, u2.1 4)]) f2 (uf f2 [(11, u2.2.1 0), (12, u2.2.1 1), (13, u2.2.1 2)]) g2 g2 k9 (uv_st hk9 (by rfl)) (uf_st hk9 (by rfl)) rfl)
  have hIm : MI (uv v2 [(0, 0, u2.1 0), (0, 24, u2.1 1), (0, 25, u2.1 2), (0, 26, u2.1 3), (0, 27, u2.1 4)]) (uf f2 [(11, u2.2.1 0), (12, u2.2.1 1), (13, u2.2.1 2)]) g2 := ⟨hIm.1, hIm.2.1, hIm.2.2.1, hIm.2.2.2.1, hIm.2.2.2.2.1, r2p7, r2p8, trivial⟩
  refine lv_pop hx hb dL_law_653 rfl ?_
  refine lv_goto (tgt := 2133) hx hb dL_law_654 (by decide) ?_
  exact kk v f g (uv v2 [(0, 0, u2.1 0), (0, 24, u2.1 1), (0, 25, u2.1 2), (0, 26, u2.1 3), (0, 27, u2.1 4)]) (uf f2 [(11, u2.2.1 0), (12, u2.2.1 1), (13, u2.2.1 2)]) g2 H locs ls hIx hIm hR hPx hPm hS hl
set_option maxHeartbeats 8000000 in
set_option maxRecDepth 100000 in
theorem law_c13 {p : Program} {e : Env} {s : State} {m : MethodId} {below : List Frame} {meth : Method} {c : Code} (l : Launch) {b L : Nat} {xs : Nat → Int32} (C0 : lw_At p s m meth c b L xs) (hL : L ≤ 3072) (k : Nat) (hk6 : k + 6 ≤ L) (G : va_G) (ct : Nat → ClassId) (a rr bm adK adV : Nat → Nat) (v : Nat → Nat → Int32) (f : Nat → Nat → Int32) (g : Nat → Nat → Int64) (v2 : Nat → Nat → Int32) (f2 : Nat → Nat → Int32) (g2 : Nat → Nat → Int64) (H : Heap) (locs : List Loc) (hK : KK G ct s) (hZ : SS adK adV (fun q : Nat => s.heap.size ≤ q) s s.heap) (hD0 : va_D (fun q : Nat => s.heap.size ≤ q) (xW a rr ct (fun _ _ => 0) (fun _ _ => 0) (fun _ _ => 0))) (hE0 : va_D (fun q : Nat => s.heap.size ≤ q) (mW bm ct (fun _ _ => 0) (fun _ _ => 0) (fun _ _ => 0))) (hap0 : wset a rr bm ct) (hIx : XI v f g) (hIm : MI v2 f2 g2) (hR : REL v f g v2 f2 g2) (hPx : va_P G vwCl (xW a rr ct v f g) H) (hPm : va_P G vwCl (mW bm ct v2 f2 g2) H) (hS : va_S (fun q : Nat => s.heap.size ≤ q) s.heap H locs) (ls : Array Slot) (hl : lv_has ls 4 [(3, .int (nI k)), (2, .ref (bm 0)), (1, .ref (a 0)), (0, .ref b)]) (kk : ∀ (v : Nat → Nat → Int32) (f : Nat → Nat → Int32) (g : Nat → Nat → Int64) (v2 : Nat → Nat → Int32) (f2 : Nat → Nat → Int32) (g2 : Nat → Nat → Int64) (H : Heap) (locs : List Loc) (ls : Array Slot), XI v f g → MI v2 f2 g2 → REL v f g v2 f2 g2 → va_P G vwCl (xW a rr ct v f g) H → va_P G vwCl (mW bm ct v2 f2 g2) H → va_S (fun q : Nat => s.heap.size ≤ q) s.heap H locs → lv_has ls 4 [(3, .int (nI k)), (2, .ref (bm 0)), (1, .ref (a 0)), (0, .ref b)] → W p l e room_1 s m #[Value.ref b] below meth c H locs 110 5410 (lw_Z below #[Value.ref b] s) (F0 m 2133 ls [])) : W p l e room_1 s m #[Value.ref b] below meth c H locs 110 5410 (lw_Z below #[Value.ref b] s) (F0 m 657 ls []) := by
  obtain ⟨hx, hb, hr, hml, hown, hts, hX, hbl, hlocks, hgv⟩ := C0
  have hown : s.vm.findClass RL = some m.cls := hown
  have hts : ∀ z ∈ wsL_law, z.before #[Value.ref b] s = true := fun z h => hts z (wsL_law_in z h)
  have hbA : ¬ (fun q : Nat => s.heap.size ≤ q) b := Nat.not_le.mpr hbl
  have hDx : va_D (fun q : Nat => s.heap.size ≤ q) (xW a rr ct v f g) := hD0.ad (xW_ad ..)
  have hDm : va_D (fun q : Nat => s.heap.size ≤ q) (mW bm ct v2 f2 g2) := hE0.ad (mW_ad ..)
  have hap : ∀ q, aset (xW a rr ct v f g) q → ¬ aset (mW bm ct v2 f2 g2) q := fun q h1 h2 => hap0 q (aset_ad (xW_ad ..) h1) (aset_ad (mW_ad ..) h2)
  refine lv_aload_n hx hb dL_law_657 rfl (lv_at hl 2 rfl) ?_
  refine lv_aload_n hx hb dL_law_658 rfl (lv_at hl 3 rfl) ?_
  refine lv_iload_n hx hb dL_law_659 rfl (lv_at hl 0 rfl) ?_
  refine lv_iconst (v := 1) hx hb dL_law_660 (by decide) ?_
  refine lv_iadd hx hb dL_law_661 ?_
  refine ix_i (y := nI (k + 1)) (nI_add k 1) ?_
  refine va_sld hx hb hX hbl hbA hS (vp_in_nI (n := k + 1) (by omega) (by omega)) dL_law_662 ?_
  refine lv_aload_n hx hb dL_law_663 rfl (lv_at hl 3 rfl) ?_
  refine lv_iload_n hx hb dL_law_664 rfl (lv_at hl 0 rfl) ?_
  refine lv_iconst (v := 2) hx hb dL_law_665 (by decide) ?_
  refine lv_iadd hx hb dL_law_666 ?_
  refine ix_i (y := nI (k + 2)) (nI_add k 2) ?_
  refine va_sld hx hb hX hbl hbA hS (vp_in_nI (n := k + 2) (by omega) (by omega)) dL_law_667 ?_
  refine lv_aload_n hx hb dL_law_668 rfl (lv_at hl 3 rfl) ?_
  refine lv_iload_n hx hb dL_law_669 rfl (lv_at hl 0 rfl) ?_
  refine lv_iconst (v := 3) hx hb dL_law_670 (by decide) ?_
  refine lv_iadd hx hb dL_law_671 ?_
  refine ix_i (y := nI (k + 3)) (nI_add k 3) ?_
  refine va_sld hx hb hX hbl hbA hS (vp_in_nI (n := k + 3) (by omega) (by omega)) dL_law_672 ?_
  refine ro_calli (va_runV (As := [.int (xs (nI (k + 1)).toNatClampNeg), .int (xs (nI (k + 2)).toNatClampNeg), .int (xs (nI (k + 3)).toNatClampNeg)]) (rest := []) ⟨hx, hb, hml, hown, hts⟩ (a_X10_asked l G ct (a 0) (a 1) (a 3) (a 11) (a 25) (a 68) (a 69) (a 77) (a 82) (a 84) (a 88) (a 91) (a 12) (a 19) (a 24) (v 11 3) (a 13) (a 15) (a 16) (a 17) (a 18) (v 12 5) (v 12 6) (a 14) (v 13 1) (f 16) (f 18) (a 20) (a 22) (a 23) (v 19 4) (v 19 5) (v 19 6) (v 19 7) (a 21) (v 20 1) (f 21) (xs (nI (k + 1)).toNatClampNeg) (xs (nI (k + 2)).toNatClampNeg) (xs (nI (k + 3)).toNatClampNeg) hIx.2.2.1 hIx.2.2.2.1) (cwV 3 hts gL_law_X10_asked rfl rfl rfl (by decide +kernel) ⟨Nat.le_of_ble_eq_true rfl, Nat.le_of_ble_eq_true rfl⟩) (ro_preV 10 0 hK (hPx.sub [0, 11, 12, 13, 16, 18, 19, 20, 21] rfl) rfl rfl) rfl rfl hl.1 rfl (lv_room (Nat.le_of_ble_eq_true rfl)) dL_law_673 ⟨Nat.le_of_ble_eq_true rfl, Nat.le_of_ble_eq_true rfl⟩) hS (hPx.app hPm) (fun r1 H locs wr1 hPP hS => ?_)
  have hPx := va_P.left hPP
  have hPm := va_P.right hPP
  obtain ⟨r1p0, r1p1, r1p2, r1p3, r1p4, r1p5, r1p6, r1p7, r1p8, r1p9, -⟩ := wr1
  refine lv_pop hx hb dL_law_676 rfl ?_
  refine lv_aload_n hx hb dL_law_677 rfl (lv_at hl 1 rfl) ?_
  refine lv_aload_n hx hb dL_law_678 rfl (lv_at hl 3 rfl) ?_
  refine lv_iload_n hx hb dL_law_679 rfl (lv_at hl 0 rfl) ?_
  refine lv_iconst (v := 1) hx hb dL_law_680 (by decide) ?_
  refine lv_iadd hx hb dL_law_681 ?_
  refine ix_i (y := nI (k + 1)) (nI_add k 1) ?_
  refine va_sld hx hb hX hbl hbA hS (vp_in_nI (n := k + 1) (by omega) (by omega)) dL_law_682 ?_
  refine lv_aload_n hx hb dL_law_683 rfl (lv_at hl 3 rfl) ?_
  refine lv_iload_n hx hb dL_law_684 rfl (lv_at hl 0 rfl) ?_
  refine lv_iconst (v := 2) hx hb dL_law_685 (by decide) ?_
  refine lv_iadd hx hb dL_law_686 ?_
  refine ix_i (y := nI (k + 2)) (nI_add k 2) ?_
  refine va_sld hx hb hX hbl hbA hS (vp_in_nI (n := k + 2) (by omega) (by omega)) dL_law_687 ?_
  refine lv_aload_n hx hb dL_law_688 rfl (lv_at hl 3 rfl) ?_
  refine lv_iload_n hx hb dL_law_689 rfl (lv_at hl 0 rfl) ?_
  refine lv_iconst (v := 3) hx hb dL_law_690 (by decide) ?_
  refine lv_iadd hx hb dL_law_691 ?_
  refine ix_i (y := nI (k + 3)) (nI_add k 3) ?_
  refine va_sld hx hb hX hbl hbA hS (vp_in_nI (n := k + 3) (by omega) (by omega)) dL_law_692 ?_
  refine lw_callx (w1 := (fun u : SU => [((bm 0), .inr (11, [.int (u.1 0), .ref (bm 1), .ref (bm 2), .ref (bm 3), .ref (bm 4), .ref (bm 5), .int (v2 0 6), .int (v2 0 7), .int (v2 0 8), .int (v2 0 9), .int (v2 0 10), .long (g2 0 11), .int (v2 0 12), .int (v2 0 13), .int (v2 0 14), .int (v2 0 15), .ref (bm 6), .ref (bm 7), .ref (bm 8), .ref (bm 9), .ref (bm 10), .ref (bm 11), .ref (bm 12), .ref (bm 13), .int (u.1 1), .int (u.1 2), .int (u.1 3), .int (u.1 4), .ref (bm 14), .int (v2 0 29), .int (v2 0 30)])), ((bm 7), .inl (ct 0, 15, .inl (f2 7))), ((bm 8), .inl (ct 0, 200, .inl (f2 8))), ((bm 9), .inl (ct 0, 1000, .inl (f2 9))), ((bm 11), .inl (ct 0, 8, .inl (u.2.1 0))), ((bm 12), .inl (ct 0, 8, .inl (u.2.1 1))), ((bm 13), .inl (ct 0, 8, .inl (u.2.1 2)))])) (va_runV (As := [.int (xs (nI (k + 1)).toNatClampNeg), .int (xs (nI (k + 2)).toNatClampNeg), .int (xs (nI (k + 3)).toNatClampNeg)]) (rest := []) ⟨hx, hb, hml, hown, hts⟩ (a_X11_asked l G ct (bm 0) (v2 0 0) (bm 1) (bm 2) (bm 3) (bm 4) (bm 5) (v2 0 6) (v2 0 7) (v2 0 8) (v2 0 9) (v2 0 10) (g2 0 11) (v2 0 12) (v2 0 13) (v2 0 14) (v2 0 15) (bm 6) (bm 7) (bm 8) (bm 9) (bm 10) (bm 11) (bm 12) (bm 13) (v2 0 24) (v2 0 25) (v2 0 26) (v2 0 27) (bm 14) (v2 0 29) (v2 0 30) (f2 7) (f2 8) (f2 9) (f2 11) (f2 12) (f2 13) (xs (nI (k + 1)).toNatClampNeg) (xs (nI (k + 2)).toNatClampNeg) (xs (nI (k + 3)).toNatClampNeg) hIm.2.1 hIm.2.2.1 hIm.2.2.2.1 hIm.2.2.2.2.1 hIm.2.2.2.2.2.1 hIm.2.2.2.2.2.2.1) (cwV 3 hts gL_law_X11_asked rfl rfl rfl (by decide +kernel) ⟨Nat.le_of_ble_eq_true rfl, Nat.le_of_ble_eq_true rfl⟩) (wr_preV 11 0 hK (hPm.sub [0, 7, 8, 9, 11, 12, 13] rfl) (hDm.sub [0, 7, 8, 9, 11, 12, 13] (by decide) rfl) rfl rfl) rfl rfl hl.1 rfl (lv_room (Nat.le_of_ble_eq_true rfl)) dL_law_693 ⟨Nat.le_of_ble_eq_true rfl, Nat.le_of_ble_eq_true rfl⟩) hS hPm hDm hPx (fun q h1 h2 => hap q h2 h1) [0, 7, 8, 9, 11, 12, 13] rfl (fun r2 u2 H locs wr2 hPx hF hS => ?_)
  obtain ⟨r2p0, r2p1, r2p2, r2p3, r2p4, r2p5, r2p6, r2p7, r2p8, r2p9, r2p10, -⟩ := wr2
  have hPm : va_P G vwCl (mW bm ct (uv v2 [(0, 0, u2.1 0), (0, 24, u2.1 1), (0, 25, u2.1 2), (0, 26, u2.1 3), (0, 27, u2.1 4)]) (uf f2 [(11, u2.2.1 0), (12, u2.2.1 1), (13, u2.2.1 2)]) g2) H := hF (mW bm ct (uv v2 [(0, 0, u2.1 0), (0, 24, u2.1 1), (0, 25, u2.1 2), (0, 26, u2.1 3), (0, 27, u2.1 4)]) (uf f2 [(11, u2.2.1 0), (12, u2.2.1 1), (13, u2.2.1 2)]) g2) rfl (fun k9 hk9 => mW_same bm ct v2 (uv v2 [(0, 0, u2.1 0), (0, 24, u2.1 1), (0, 25, u2.1 2), (0, 26, u2.1 3), (0, 27, u2.1 4)]) f2 (uf f2 [(11, u2.2.1 0), (12, u2.2.1 1), (13, u2.2.1 2)]) g2 g2 k9 (uv_st hk9 (by rfl)) (uf_st hk9 (by rfl)) rfl)
  have hIm : MI (uv v2 [(0, 0, u2.1 0), (0, 24, u2.1 1), (0, 25, u2.1 2), (0, 26, u2.1 3), (0, 27, u2.1 4)]) (uf f2 [(11, u2.2.1 0), (12, u2.2.1 1), (13, u2.2.1 2)]) g2 := ⟨hIm.1, hIm.2.1, hIm.2.2.1, hIm.2.2.2.1, hIm.2.2.2.2.1, r2p8, r2p9, trivial⟩
  refine lv_pop hx hb dL_law_696 rfl ?_
  refine lv_goto (tgt := 2133) hx hb dL_law_697 (by decide) ?_
  exact kk v f g (uv v2 [(0, 0, u2.1 0), (0, 24, u2.1 1), (0, 25, u2.1 2), (0, 26, u2.1 3), (0, 27, u2.1 4)]) (uf f2 [(11, u2.2.1 0), (12, u2.2.1 1), (13, u2.2.1 2)]) g2 H locs ls hIx hIm hR hPx hPm hS hl
set_option maxHeartbeats 8000000 in
set_option maxRecDepth 100000 in
theorem law_c14 {p : Program} {e : Env} {s : State} {m : MethodId} {below : List Frame} {meth : Method} {c : Code} (l : Launch) {b L : Nat} {xs : Nat → Int32} (C0 : lw_At p s m meth c b L xs) (hL : L ≤ 3072) (k : Nat) (hk6 : k + 6 ≤ L) (G : va_G) (ct : Nat → ClassId) (a rr bm adK adV : Nat → Nat) (v : Nat → Nat → Int32) (f : Nat → Nat → Int32) (g : Nat → Nat → Int64) (v2 : Nat → Nat → Int32) (f2 : Nat → Nat → Int32) (g2 : Nat → Nat → Int64) (H : Heap) (locs : List Loc) (hK : KK G ct s) (hZ : SS adK adV (fun q : Nat => s.heap.size ≤ q) s s.heap) (hD0 : va_D (fun q : Nat => s.heap.size ≤ q) (xW a rr ct (fun _ _ => 0) (fun _ _ => 0) (fun _ _ => 0))) (hE0 : va_D (fun q : Nat => s.heap.size ≤ q) (mW bm ct (fun _ _ => 0) (fun _ _ => 0) (fun _ _ => 0))) (hap0 : wset a rr bm ct) (hIx : XI v f g) (hIm : MI v2 f2 g2) (hR : REL v f g v2 f2 g2) (hPx : va_P G vwCl (xW a rr ct v f g) H) (hPm : va_P G vwCl (mW bm ct v2 f2 g2) H) (hS : va_S (fun q : Nat => s.heap.size ≤ q) s.heap H locs) (ls : Array Slot) (hl : lv_has ls 4 [(3, .int (nI k)), (2, .ref (bm 0)), (1, .ref (a 0)), (0, .ref b)]) (kk : ∀ (v : Nat → Nat → Int32) (f : Nat → Nat → Int32) (g : Nat → Nat → Int64) (v2 : Nat → Nat → Int32) (f2 : Nat → Nat → Int32) (g2 : Nat → Nat → Int64) (H : Heap) (locs : List Loc) (ls : Array Slot), XI v f g → MI v2 f2 g2 → REL v f g v2 f2 g2 → va_P G vwCl (xW a rr ct v f g) H → va_P G vwCl (mW bm ct v2 f2 g2) H → va_S (fun q : Nat => s.heap.size ≤ q) s.heap H locs → lv_has ls 4 [(3, .int (nI k)), (2, .ref (bm 0)), (1, .ref (a 0)), (0, .ref b)] → W p l e room_1 s m #[Value.ref b] below meth c H locs 110 5410 (lw_Z below #[Value.ref b] s) (F0 m 2133 ls [])) : W p l e room_1 s m #[Value.ref b] below meth c H locs 110 5410 (lw_Z below #[Value.ref b] s) (F0 m 700 ls []) := by
  obtain ⟨hx, hb, hr, hml, hown, hts, hX, hbl, hlocks, hgv⟩ := C0
  have hown : s.vm.findClass RL = some m.cls := hown
  have hts : ∀ z ∈ wsL_law, z.before #[Value.ref b] s = true := fun z h => hts z (wsL_law_in z h)
  have hbA : ¬ (fun q : Nat => s.heap.size ≤ q) b := Nat.not_le.mpr hbl
  have hDx : va_D (fun q : Nat => s.heap.size ≤ q) (xW a rr ct v f g) := hD0.ad (xW_ad ..)
  have hDm : va_D (fun q : Nat => s.heap.size ≤ q) (mW bm ct v2 f2 g2) := hE0.ad (mW_ad ..)
  have hap : ∀ q, aset (xW a rr ct v f g) q → ¬ aset (mW bm ct v2 f2 g2) q := fun q h1 h2 => hap0 q (aset_ad (xW_ad ..) h1) (aset_ad (mW_ad ..) h2)
  refine lv_aload_n hx hb dL_law_700 rfl (lv_at hl 2 rfl) ?_
  refine lv_aload_n hx hb dL_law_701 rfl (lv_at hl 3 rfl) ?_
  refine lv_iload_n hx hb dL_law_702 rfl (lv_at hl 0 rfl) ?_
  refine lv_iconst (v := 1) hx hb dL_law_703 (by decide) ?_
  refine lv_iadd hx hb dL_law_704 ?_
  refine ix_i (y := nI (k + 1)) (nI_add k 1) ?_
  refine va_sld hx hb hX hbl hbA hS (vp_in_nI (n := k + 1) (by omega) (by omega)) dL_law_705 ?_
  refine ro_calli (va_runV (As := [.int (xs (nI (k + 1)).toNatClampNeg)]) (rest := []) ⟨hx, hb, hml, hown, hts⟩ (a_X10_can l G ct (a 0) (a 1) (a 3) (a 11) (a 25) (a 68) (a 69) (a 77) (a 82) (a 84) (a 88) (a 91) (a 12) (a 19) (a 24) (v 11 3) (a 13) (a 15) (a 16) (a 17) (a 18) (v 12 5) (v 12 6) (a 14) (v 13 1) (f 16) (f 17) (a 20) (a 22) (a 23) (v 19 4) (v 19 5) (v 19 6) (v 19 7) (a 21) (v 20 1) (f 21) (xs (nI (k + 1)).toNatClampNeg) hIx.2.2.1 hIx.2.2.2.1) (cwV 1 hts gL_law_X10_can rfl rfl rfl (by decide +kernel) ⟨Nat.le_of_ble_eq_true rfl, Nat.le_of_ble_eq_true rfl⟩) (ro_preV 10 0 hK (hPx.sub [0, 11, 12, 13, 16, 17, 19, 20, 21] rfl) rfl rfl) rfl rfl hl.1 rfl (lv_room (Nat.le_of_ble_eq_true rfl)) dL_law_706 ⟨Nat.le_of_ble_eq_true rfl, Nat.le_of_ble_eq_true rfl⟩) hS (hPx.app hPm) (fun r1 H locs wr1 hPP hS => ?_)
  have hPx := va_P.left hPP
  have hPm := va_P.right hPP
  obtain ⟨r1p0, r1p1, r1p2, r1p3, r1p4, r1p5, -⟩ := wr1
  refine lv_pop hx hb dL_law_709 rfl ?_
  refine lv_aload_n hx hb dL_law_710 rfl (lv_at hl 1 rfl) ?_
  refine lv_aload_n hx hb dL_law_711 rfl (lv_at hl 3 rfl) ?_
  refine lv_iload_n hx hb dL_law_712 rfl (lv_at hl 0 rfl) ?_
  refine lv_iconst (v := 1) hx hb dL_law_713 (by decide) ?_
  refine lv_iadd hx hb dL_law_714 ?_
  refine ix_i (y := nI (k + 1)) (nI_add k 1) ?_
  refine va_sld hx hb hX hbl hbA hS (vp_in_nI (n := k + 1) (by omega) (by omega)) dL_law_715 ?_
  refine lw_callx (w1 := (fun u : SU => [((bm 0), .inr (11, [.int (u.1 0), .ref (bm 1), .ref (bm 2), .ref (bm 3), .ref (bm 4), .ref (bm 5), .int (v2 0 6), .int (v2 0 7), .int (v2 0 8), .int (v2 0 9), .int (v2 0 10), .long (g2 0 11), .int (v2 0 12), .int (v2 0 13), .int (v2 0 14), .int (v2 0 15), .ref (bm 6), .ref (bm 7), .ref (bm 8), .ref (bm 9), .ref (bm 10), .ref (bm 11), .ref (bm 12), .ref (bm 13), .int (u.1 1), .int (u.1 2), .int (u.1 3), .int (u.1 4), .ref (bm 14), .int (v2 0 29), .int (v2 0 30)])), ((bm 7), .inl (ct 0, 15, .inl (f2 7))), ((bm 8), .inl (ct 0, 200, .inl (f2 8))), ((bm 9), .inl (ct 0, 1000, .inl (f2 9))), ((bm 11), .inl (ct 0, 8, .inl (u.2.1 0))), ((bm 12), .inl (ct 0, 8, .inl (u.2.1 1))), ((bm 13), .inl (ct 0, 8, .inl (u.2.1 2)))])) (va_runV (As := [.int (xs (nI (k + 1)).toNatClampNeg)]) (rest := []) ⟨hx, hb, hml, hown, hts⟩ (a_X11_can l G ct (bm 0) (v2 0 0) (bm 1) (bm 2) (bm 3) (bm 4) (bm 5) (v2 0 6) (v2 0 7) (v2 0 8) (v2 0 9) (v2 0 10) (g2 0 11) (v2 0 12) (v2 0 13) (v2 0 14) (v2 0 15) (bm 6) (bm 7) (bm 8) (bm 9) (bm 10) (bm 11) (bm 12) (bm 13) (v2 0 24) (v2 0 25) (v2 0 26) (v2 0 27) (bm 14) (v2 0 29) (v2 0 30) (f2 7) (f2 8) (f2 9) (f2 11) (f2 12) (f2 13) (xs (nI (k + 1)).toNatClampNeg) hIm.2.1 hIm.2.2.1 hIm.2.2.2.1 hIm.2.2.2.2.1 hIm.2.2.2.2.2.1 hIm.2.2.2.2.2.2.1) (cwV 1 hts gL_law_X11_can rfl rfl rfl (by decide +kernel) ⟨Nat.le_of_ble_eq_true rfl, Nat.le_of_ble_eq_true rfl⟩) (wr_preV 11 0 hK (hPm.sub [0, 7, 8, 9, 11, 12, 13] rfl) (hDm.sub [0, 7, 8, 9, 11, 12, 13] (by decide) rfl) rfl rfl) rfl rfl hl.1 rfl (lv_room (Nat.le_of_ble_eq_true rfl)) dL_law_716 ⟨Nat.le_of_ble_eq_true rfl, Nat.le_of_ble_eq_true rfl⟩) hS hPm hDm hPx (fun q h1 h2 => hap q h2 h1) [0, 7, 8, 9, 11, 12, 13] rfl (fun r2 u2 H locs wr2 hPx hF hS => ?_)
  obtain ⟨r2p0, r2p1, r2p2, r2p3, r2p4, r2p5, -⟩ := wr2
  have hPm : va_P G vwCl (mW bm ct (uv v2 [(0, 0, u2.1 0), (0, 24, u2.1 1), (0, 25, u2.1 2), (0, 26, u2.1 3), (0, 27, u2.1 4)]) (uf f2 [(11, u2.2.1 0), (12, u2.2.1 1), (13, u2.2.1 2)]) g2) H := hF (mW bm ct (uv v2 [(0, 0, u2.1 0), (0, 24, u2.1 1), (0, 25, u2.1 2), (0, 26, u2.1 3), (0, 27, u2.1 4)]) (uf f2 [(11, u2.2.1 0), (12, u2.2.1 1), (13, u2.2.1 2)]) g2) rfl (fun k9 hk9 => mW_same bm ct v2 (uv v2 [(0, 0, u2.1 0), (0, 24, u2.1 1), (0, 25, u2.1 2), (0, 26, u2.1 3), (0, 27, u2.1 4)]) f2 (uf f2 [(11, u2.2.1 0), (12, u2.2.1 1), (13, u2.2.1 2)]) g2 g2 k9 (uv_st hk9 (by rfl)) (uf_st hk9 (by rfl)) rfl)
  have hIm : MI (uv v2 [(0, 0, u2.1 0), (0, 24, u2.1 1), (0, 25, u2.1 2), (0, 26, u2.1 3), (0, 27, u2.1 4)]) (uf f2 [(11, u2.2.1 0), (12, u2.2.1 1), (13, u2.2.1 2)]) g2 := ⟨hIm.1, hIm.2.1, hIm.2.2.1, hIm.2.2.2.1, hIm.2.2.2.2.1, r2p3, r2p4, trivial⟩
  refine lv_pop hx hb dL_law_719 rfl ?_
  refine lv_goto (tgt := 2133) hx hb dL_law_720 (by decide) ?_
  exact kk v f g (uv v2 [(0, 0, u2.1 0), (0, 24, u2.1 1), (0, 25, u2.1 2), (0, 26, u2.1 3), (0, 27, u2.1 4)]) (uf f2 [(11, u2.2.1 0), (12, u2.2.1 1), (13, u2.2.1 2)]) g2 H locs ls hIx hIm hR hPx hPm hS hl
set_option maxHeartbeats 8000000 in
set_option maxRecDepth 100000 in
theorem law_c15 {p : Program} {e : Env} {s : State} {m : MethodId} {below : List Frame} {meth : Method} {c : Code} (l : Launch) {b L : Nat} {xs : Nat → Int32} (C0 : lw_At p s m meth c b L xs) (hL : L ≤ 3072) (k : Nat) (hk6 : k + 6 ≤ L) (G : va_G) (ct : Nat → ClassId) (a rr bm adK adV : Nat → Nat) (v : Nat → Nat → Int32) (f : Nat → Nat → Int32) (g : Nat → Nat → Int64) (v2 : Nat → Nat → Int32) (f2 : Nat → Nat → Int32) (g2 : Nat → Nat → Int64) (H : Heap) (locs : List Loc) (hK : KK G ct s) (hZ : SS adK adV (fun q : Nat => s.heap.size ≤ q) s s.heap) (hD0 : va_D (fun q : Nat => s.heap.size ≤ q) (xW a rr ct (fun _ _ => 0) (fun _ _ => 0) (fun _ _ => 0))) (hE0 : va_D (fun q : Nat => s.heap.size ≤ q) (mW bm ct (fun _ _ => 0) (fun _ _ => 0) (fun _ _ => 0))) (hap0 : wset a rr bm ct) (hIx : XI v f g) (hIm : MI v2 f2 g2) (hR : REL v f g v2 f2 g2) (hPx : va_P G vwCl (xW a rr ct v f g) H) (hPm : va_P G vwCl (mW bm ct v2 f2 g2) H) (hS : va_S (fun q : Nat => s.heap.size ≤ q) s.heap H locs) (ls : Array Slot) (hl : lv_has ls 4 [(3, .int (nI k)), (2, .ref (bm 0)), (1, .ref (a 0)), (0, .ref b)]) (kk : ∀ (v : Nat → Nat → Int32) (f : Nat → Nat → Int32) (g : Nat → Nat → Int64) (v2 : Nat → Nat → Int32) (f2 : Nat → Nat → Int32) (g2 : Nat → Nat → Int64) (H : Heap) (locs : List Loc) (ls : Array Slot), XI v f g → MI v2 f2 g2 → REL v f g v2 f2 g2 → va_P G vwCl (xW a rr ct v f g) H → va_P G vwCl (mW bm ct v2 f2 g2) H → va_S (fun q : Nat => s.heap.size ≤ q) s.heap H locs → lv_has ls 4 [(3, .int (nI k)), (2, .ref (bm 0)), (1, .ref (a 0)), (0, .ref b)] → W p l e room_1 s m #[Value.ref b] below meth c H locs 110 5410 (lw_Z below #[Value.ref b] s) (F0 m 2133 ls [])) : W p l e room_1 s m #[Value.ref b] below meth c H locs 110 5410 (lw_Z below #[Value.ref b] s) (F0 m 723 ls []) := by
  obtain ⟨hx, hb, hr, hml, hown, hts, hX, hbl, hlocks, hgv⟩ := C0
  have hown : s.vm.findClass RL = some m.cls := hown
  have hts : ∀ z ∈ wsL_law, z.before #[Value.ref b] s = true := fun z h => hts z (wsL_law_in z h)
  have hbA : ¬ (fun q : Nat => s.heap.size ≤ q) b := Nat.not_le.mpr hbl
  have hDx : va_D (fun q : Nat => s.heap.size ≤ q) (xW a rr ct v f g) := hD0.ad (xW_ad ..)
  have hDm : va_D (fun q : Nat => s.heap.size ≤ q) (mW bm ct v2 f2 g2) := hE0.ad (mW_ad ..)
  have hap : ∀ q, aset (xW a rr ct v f g) q → ¬ aset (mW bm ct v2 f2 g2) q := fun q h1 h2 => hap0 q (aset_ad (xW_ad ..) h1) (aset_ad (mW_ad ..) h2)
  refine lv_aload_n hx hb dL_law_723 rfl (lv_at hl 2 rfl) ?_
  refine lv_aload_n hx hb dL_law_724 rfl (lv_at hl 3 rfl) ?_
  refine lv_iload_n hx hb dL_law_725 rfl (lv_at hl 0 rfl) ?_
  refine lv_iconst (v := 1) hx hb dL_law_726 (by decide) ?_
  refine lv_iadd hx hb dL_law_727 ?_
  refine ix_i (y := nI (k + 1)) (nI_add k 1) ?_
  refine va_sld hx hb hX hbl hbA hS (vp_in_nI (n := k + 1) (by omega) (by omega)) dL_law_728 ?_
  refine lv_aload_n hx hb dL_law_729 rfl (lv_at hl 3 rfl) ?_
  refine lv_iload_n hx hb dL_law_730 rfl (lv_at hl 0 rfl) ?_
  refine lv_iconst (v := 2) hx hb dL_law_731 (by decide) ?_
  refine lv_iadd hx hb dL_law_732 ?_
  refine ix_i (y := nI (k + 2)) (nI_add k 2) ?_
  refine va_sld hx hb hX hbl hbA hS (vp_in_nI (n := k + 2) (by omega) (by omega)) dL_law_733 ?_
  refine lv_aload_n hx hb dL_law_734 rfl (lv_at hl 3 rfl) ?_
  refine lv_iload_n hx hb dL_law_735 rfl (lv_at hl 0 rfl) ?_
  refine lv_iconst (v := 3) hx hb dL_law_736 (by decide) ?_
  refine lv_iadd hx hb dL_law_737 ?_
  refine ix_i (y := nI (k + 3)) (nI_add k 3) ?_
  refine va_sld hx hb hX hbl hbA hS (vp_in_nI (n := k + 3) (by omega) (by omega)) dL_law_738 ?_
  refine ro_calli (va_runV (As := [.int (xs (nI (k + 1)).toNatClampNeg), .int (xs (nI (k + 2)).toNatClampNeg), .int (xs (nI (k + 3)).toNatClampNeg)]) (rest := []) ⟨hx, hb, hml, hown, hts⟩ (a_X10_why l G ct (a 0) (a 1) (a 3) (a 11) (a 25) (a 68) (a 69) (a 77) (a 82) (a 84) (a 88) (a 91) (a 12) (a 19) (a 24) (v 11 3) (a 13) (a 15) (a 16) (a 17) (a 18) (v 12 5) (v 12 6) (a 14) (v 13 1) (f 16) (a 20) (a 22) (a 23) (v 19 4) (v 19 5) (v 19 6) (v 19 7) (a 21) (v 20 1) (f 21) (xs (nI (k + 1)).toNatClampNeg) (xs (nI (k + 2)).toNatClampNeg) (xs (nI (k + 3)).toNatClampNeg) hIx.2.2.1 hIx.2.2.2.1) (cwV 3 hts gL_law_X10_why rfl rfl rfl (by decide +kernel) ⟨Nat.le_of_ble_eq_true rfl, Nat.le_of_ble_eq_true rfl⟩) (ro_preV 10 0 hK (hPx.sub [0, 11, 12, 13, 16, 19, 20, 21] rfl) rfl rfl) rfl rfl hl.1 rfl (lv_room (Nat.le_of_ble_eq_true rfl)) dL_law_739 ⟨Nat.le_of_ble_eq_true rfl, Nat.le_of_ble_eq_true rfl⟩) hS (hPx.app hPm) (fun r1 H locs wr1 hPP hS => ?_)
  have hPx := va_P.left hPP
  have hPm := va_P.right hPP
  obtain ⟨r1p0, r1p1, r1p2, r1p3, r1p4, r1p5, r1p6, r1p7, r1p8, -⟩ := wr1
  refine lv_pop hx hb dL_law_742 rfl ?_
  refine lv_aload_n hx hb dL_law_743 rfl (lv_at hl 1 rfl) ?_
  refine lv_aload_n hx hb dL_law_744 rfl (lv_at hl 3 rfl) ?_
  refine lv_iload_n hx hb dL_law_745 rfl (lv_at hl 0 rfl) ?_
  refine lv_iconst (v := 1) hx hb dL_law_746 (by decide) ?_
  refine lv_iadd hx hb dL_law_747 ?_
  refine ix_i (y := nI (k + 1)) (nI_add k 1) ?_
  refine va_sld hx hb hX hbl hbA hS (vp_in_nI (n := k + 1) (by omega) (by omega)) dL_law_748 ?_
  refine lv_aload_n hx hb dL_law_749 rfl (lv_at hl 3 rfl) ?_
  refine lv_iload_n hx hb dL_law_750 rfl (lv_at hl 0 rfl) ?_
  refine lv_iconst (v := 2) hx hb dL_law_751 (by decide) ?_
  refine lv_iadd hx hb dL_law_752 ?_
  refine ix_i (y := nI (k + 2)) (nI_add k 2) ?_
  refine va_sld hx hb hX hbl hbA hS (vp_in_nI (n := k + 2) (by omega) (by omega)) dL_law_753 ?_
  refine lv_aload_n hx hb dL_law_754 rfl (lv_at hl 3 rfl) ?_
  refine lv_iload_n hx hb dL_law_755 rfl (lv_at hl 0 rfl) ?_
  refine lv_iconst (v := 3) hx hb dL_law_756 (by decide) ?_
  refine lv_iadd hx hb dL_law_757 ?_
  refine ix_i (y := nI (k + 3)) (nI_add k 3) ?_
  refine va_sld hx hb hX hbl hbA hS (vp_in_nI (n := k + 3) (by omega) (by omega)) dL_law_758 ?_
  refine lw_callx (w1 := (fun u : SU => [((bm 0), .inr (11, [.int (u.1 0), .ref (bm 1), .ref (bm 2), .ref (bm 3), .ref (bm 4), .ref (bm 5), .int (v2 0 6), .int (v2 0 7), .int (v2 0 8), .int (v2 0 9), .int (v2 0 10), .long (g2 0 11), .int (v2 0 12), .int (v2 0 13), .int (v2 0 14), .int (v2 0 15), .ref (bm 6), .ref (bm 7), .ref (bm 8), .ref (bm 9), .ref (bm 10), .ref (bm 11), .ref (bm 12), .ref (bm 13), .int (u.1 1), .int (u.1 2), .int (u.1 3), .int (u.1 4), .ref (bm 14), .int (v2 0 29), .int (v2 0 30)])), ((bm 7), .inl (ct 0, 15, .inl (f2 7))), ((bm 8), .inl (ct 0, 200, .inl (f2 8))), ((bm 9), .inl (ct 0, 1000, .inl (f2 9))), ((bm 11), .inl (ct 0, 8, .inl (u.2.1 0))), ((bm 12), .inl (ct 0, 8, .inl (u.2.1 1))), ((bm 13), .inl (ct 0, 8, .inl (u.2.1 2)))])) (va_runV (As := [.int (xs (nI (k + 1)).toNatClampNeg), .int (xs (nI (k + 2)).toNatClampNeg), .int (xs (nI (k + 3)).toNatClampNeg)]) (rest := []) ⟨hx, hb, hml, hown, hts⟩ (a_X11_why l G ct (bm 0) (v2 0 0) (bm 1) (bm 2) (bm 3) (bm 4) (bm 5) (v2 0 6) (v2 0 7) (v2 0 8) (v2 0 9) (v2 0 10) (g2 0 11) (v2 0 12) (v2 0 13) (v2 0 14) (v2 0 15) (bm 6) (bm 7) (bm 8) (bm 9) (bm 10) (bm 11) (bm 12) (bm 13) (v2 0 24) (v2 0 25) (v2 0 26) (v2 0 27) (bm 14) (v2 0 29) (v2 0 30) (f2 7) (f2 8) (f2 9) (f2 11) (f2 12) (f2 13) (xs (nI (k + 1)).toNatClampNeg) (xs (nI (k + 2)).toNatClampNeg) (xs (nI (k + 3)).toNatClampNeg) hIm.2.1 hIm.2.2.1 hIm.2.2.2.1 hIm.2.2.2.2.1 hIm.2.2.2.2.2.1 hIm.2.2.2.2.2.2.1) (cwV 3 hts gL_law_X11_why rfl rfl rfl (by decide +kernel) ⟨Nat.le_of_ble_eq_true rfl, Nat.le_of_ble_eq_true rfl⟩) (wr_preV 11 0 hK (hPm.sub [0, 7, 8, 9, 11, 12, 13] rfl) (hDm.sub [0, 7, 8, 9, 11, 12, 13] (by decide) rfl) rfl rfl) rfl rfl hl.1 rfl (lv_room (Nat.le_of_ble_eq_true rfl)) dL_law_759 ⟨Nat.le_of_ble_eq_true rfl, Nat.le_of_ble_eq_true rfl⟩) hS hPm hDm hPx (fun q h1 h2 => hap q h2 h1) [0, 7, 8, 9, 11, 12, 13] rfl (fun r2 u2 H locs wr2 hPx hF hS => ?_)
  obtain ⟨r2p0, r2p1, r2p2, r2p3, r2p4, r2p5, r2p6, r2p7, r2p8, r2p9, -⟩ := wr2
  have hPm : va_P G vwCl (mW bm ct (uv v2 [(0, 0, u2.1 0), (0, 24, u2.1 1), (0, 25, u2.1 2), (0, 26, u2.1 3), (0, 27, u2.1 4)]) (uf f2 [(11, u2.2.1 0), (12, u2.2.1 1), (13, u2.2.1 2)]) g2) H := hF (mW bm ct (uv v2 [(0, 0, u2.1 0), (0, 24, u2.1 1), (0, 25, u2.1 2), (0, 26, u2.1 3), (0, 27, u2.1 4)]) (uf f2 [(11, u2.2.1 0), (12, u2.2.1 1), (13, u2.2.1 2)]) g2) rfl (fun k9 hk9 => mW_same bm ct v2 (uv v2 [(0, 0, u2.1 0), (0, 24, u2.1 1), (0, 25, u2.1 2), (0, 26, u2.1 3), (0, 27, u2.1 4)]) f2 (uf f2 [(11, u2.2.1 0), (12, u2.2.1 1), (13, u2.2.1 2)]) g2 g2 k9 (uv_st hk9 (by rfl)) (uf_st hk9 (by rfl)) rfl)
  have hIm : MI (uv v2 [(0, 0, u2.1 0), (0, 24, u2.1 1), (0, 25, u2.1 2), (0, 26, u2.1 3), (0, 27, u2.1 4)]) (uf f2 [(11, u2.2.1 0), (12, u2.2.1 1), (13, u2.2.1 2)]) g2 := ⟨hIm.1, hIm.2.1, hIm.2.2.1, hIm.2.2.2.1, hIm.2.2.2.2.1, r2p7, r2p8, trivial⟩
  refine lv_pop hx hb dL_law_762 rfl ?_
  refine lv_goto (tgt := 2133) hx hb dL_law_763 (by decide) ?_
  exact kk v f g (uv v2 [(0, 0, u2.1 0), (0, 24, u2.1 1), (0, 25, u2.1 2), (0, 26, u2.1 3), (0, 27, u2.1 4)]) (uf f2 [(11, u2.2.1 0), (12, u2.2.1 1), (13, u2.2.1 2)]) g2 H locs ls hIx hIm hR hPx hPm hS hl
