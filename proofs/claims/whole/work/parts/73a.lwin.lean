/-! the words of the law lie in the tables -/
theorem mem_pl {big ws : List Cond} (ps : List Nat) (hp : ws = ps.filterMap (fun i => big[i]?)) : ∀ w ∈ ws, w ∈ big := by
  intro w hw
  rw [hp] at hw
  obtain ⟨i, -, hi⟩ := List.mem_filterMap.mp hw
  exact List.mem_of_getElem? hi
theorem lwr_1 : ∀ w ∈ wsL_law0_r1, w ∈ lw_tbl := mem_pl [71, 72, 53, 782, 783, 56, 855, 1025, 172, 173, 52, 174, 73, 74, 75, 76, 77, 78, 79, 80, 81, 54, 82, 83] (by decide +kernel)
theorem lwr_2 : ∀ w ∈ wsL_law0_r2, w ∈ lw_tbl := mem_pl [84, 85, 89, 120, 90, 91, 92, 93, 94, 95, 96, 97, 98, 86, 87, 55, 88, 784, 785, 786, 787, 793, 794, 795] (by decide +kernel)
theorem lwr_3 : ∀ w ∈ wsL_law0_r3, w ∈ lw_tbl := mem_pl [796, 797, 798, 788, 799, 800, 801, 789, 802, 803, 804, 805, 806, 807, 808, 856, 809, 810, 790, 792, 175, 176, 177, 178] (by decide +kernel)
theorem lwr_4 : ∀ w ∈ wsL_law0_r4, w ∈ lw_tbl := mem_pl [179, 180, 181, 182, 183, 187, 60, 184, 185, 186, 254, 255, 256, 258, 260, 11, 261, 266, 62, 262, 264, 12, 265, 125] (by decide +kernel)
theorem lwr_5 : ∀ w ∈ wsL_law0_r5, w ∈ lw_tbl := mem_pl [127, 0, 128, 129, 131, 1, 132, 133, 135, 2, 136, 137, 139, 3, 140, 141, 143, 4, 144, 145, 147, 5, 148, 149] (by decide +kernel)
theorem lwr_6 : ∀ w ∈ wsL_law0_r6, w ∈ lw_tbl := mem_pl [150, 151, 152, 153, 155, 6, 156, 157, 159, 7, 160, 161, 163, 8, 164, 165, 167, 9, 168, 169, 171, 170, 61, 282] (by decide +kernel)
theorem lwr_7 : ∀ w ∈ wsL_law0_r7, w ∈ lw_tbl := mem_pl [284, 13, 285, 286, 287, 288, 289, 290, 291, 292, 293, 295, 296, 297, 298, 299, 300, 301, 302, 303, 305, 306, 64, 536] (by decide +kernel)
theorem lwr_8 : ∀ w ∈ wsL_law0_r8, w ∈ lw_tbl := mem_pl [537, 538, 885, 886, 887, 888, 791, 889, 890, 891, 892, 893, 894, 895, 897, 39, 898, 899, 901, 40, 902, 865, 867, 35] (by decide +kernel)
theorem lwr_9 : ∀ w ∈ wsL_law0_r9, w ∈ lw_tbl := mem_pl [868, 811, 869, 871, 36, 872, 873, 875, 37, 876, 877, 879, 38, 880, 857, 858, 859, 860, 539, 540, 541, 542, 543, 544] (by decide +kernel)
theorem lwr_10 : ∀ w ∈ wsL_law0_r10, w ∈ lw_tbl := mem_pl [545, 903, 904, 905, 906, 546, 547, 548, 549, 550, 551, 552, 907, 908, 909, 910, 553, 554, 555, 556, 557, 558, 559, 560] (by decide +kernel)
theorem lwr_11 : ∀ w ∈ wsL_law0_r11, w ∈ lw_tbl := mem_pl [562, 14, 563, 911, 912, 913, 914, 564, 565, 566, 567, 568, 569, 570, 915, 916, 917, 918, 571, 572, 573, 574, 575, 576] (by decide +kernel)
theorem lwr_12 : ∀ w ∈ wsL_law0_r12, w ∈ lw_tbl := mem_pl [577, 578, 580, 15, 581, 582, 584, 16, 585, 919, 920, 921, 922, 923, 925, 41, 926, 927, 929, 42, 930, 588, 589, 590] (by decide +kernel)
theorem lwr_13 : ∀ w ∈ wsL_law0_r13, w ∈ lw_tbl := mem_pl [591, 592, 593, 594, 931, 932, 933, 934, 595, 596, 597, 598, 599, 600, 601, 602, 604, 17, 605, 935, 936, 937, 938, 943] (by decide +kernel)
theorem lwr_14 : ∀ w ∈ wsL_law0_r14, w ∈ lw_tbl := mem_pl [939, 941, 43, 942, 608, 609, 610, 611, 612, 613, 614, 616, 944, 945, 946, 947, 617, 618, 619, 620, 621, 622, 623, 625] (by decide +kernel)
theorem lwr_15 : ∀ w ∈ wsL_law0_r15, w ∈ lw_tbl := mem_pl [948, 949, 950, 951, 626, 627, 628, 629, 630, 631, 632, 952, 953, 954, 955, 633, 634, 635, 636, 637, 638, 639, 640, 642] (by decide +kernel)
theorem lwr_16 : ∀ w ∈ wsL_law0_r16, w ∈ lw_tbl := mem_pl [18, 643, 956, 957, 958, 959, 960, 962, 44, 963, 645, 646, 647, 648, 649, 650, 651, 964, 965, 966, 967, 652, 653, 654] (by decide +kernel)
theorem lwr_17 : ∀ w ∈ wsL_law0_r17, w ∈ lw_tbl := mem_pl [655, 656, 657, 658, 668, 660, 662, 19, 663, 664, 666, 20, 667, 669, 671, 21, 672, 968, 969, 970, 971, 972, 974, 45] (by decide +kernel)
theorem lwr_18 : ∀ w ∈ wsL_law0_r18, w ∈ lw_tbl := mem_pl [975, 673, 674, 675, 676, 677, 678, 679, 680, 682, 22, 683, 685, 687, 23, 688, 689, 691, 24, 692, 694, 696, 25, 697] (by decide +kernel)
theorem lwr_19 : ∀ w ∈ wsL_law0_r19, w ∈ lw_tbl := mem_pl [698, 700, 26, 701, 702, 704, 27, 705, 706, 708, 28, 709, 976, 977, 978, 979, 980, 982, 46, 983, 710, 711, 712, 713] (by decide +kernel)
theorem lwr_20 : ∀ w ∈ wsL_law0_r20, w ∈ lw_tbl := mem_pl [714, 715, 716, 718, 720, 29, 721, 722, 724, 30, 725, 726, 728, 31, 729, 984, 985, 986, 987, 988, 990, 47, 991, 992] (by decide +kernel)
theorem lwr_21 : ∀ w ∈ wsL_law0_r21, w ∈ lw_tbl := mem_pl [994, 48, 995, 730, 731, 732, 733, 734, 735, 736, 996, 997, 998, 999, 737, 738, 739, 740, 741, 742, 743, 1000, 1001, 1002] (by decide +kernel)
theorem lwr_22 : ∀ w ∈ wsL_law0_r22, w ∈ lw_tbl := mem_pl [1003, 1004, 1006, 49, 1007, 1008, 745, 746, 747, 748, 749, 750, 751, 752, 753, 70, 754, 1009, 1010, 1011, 1012, 1013, 1015, 50] (by decide +kernel)
theorem lwr_23 : ∀ w ∈ wsL_law0_r23, w ∈ lw_tbl := mem_pl [1016, 755, 756, 757, 758, 759, 760, 761, 762, 764, 32, 765, 766, 768, 33, 769, 770, 772, 34, 773, 1017, 1018, 1019, 1020] (by decide +kernel)
theorem lwr_24 : ∀ w ∈ wsL_law0_r24, w ∈ lw_tbl := mem_pl [1021, 1023, 51, 1024, 121, 122, 123, 124, 861, 862, 863, 864, 774, 775, 776, 777, 778, 779, 780, 881, 882, 883, 884] (by decide +kernel)
theorem lwr_X0 : ∀ w ∈ wsX00, w ∈ lw_tbl := by decide +kernel
theorem lwr_X1 : ∀ w ∈ wsX10, w ∈ lw_tbl := by decide +kernel
theorem lwr_J4 : ∀ w ∈ wsJ40, w ∈ lw_tbl := by decide +kernel
