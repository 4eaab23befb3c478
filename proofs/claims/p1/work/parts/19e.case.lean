theorem dL_law_741 : decode cL_law 741 = .ok (.aload_n 1, 1) := by decide +kernel
theorem dL_law_742 : decode cL_law 742 = .ok (.aload_n 0, 1) := by decide +kernel
theorem dL_law_743 : decode cL_law 743 = .ok (.iload 5, 2) := by decide +kernel
theorem dL_law_745 : decode cL_law 745 = .ok (.iconst 1, 1) := by decide +kernel
theorem dL_law_746 : decode cL_law 746 = .ok (.iadd, 1) := by decide +kernel
theorem dL_law_747 : decode cL_law 747 = .ok (.iaload, 1) := by decide +kernel
theorem dL_law_748 : decode cL_law 748 = .ok (.aload_n 3, 1) := by decide +kernel
set_option maxRecDepth 20000 in
theorem ggL_law_L_waited_c0 : GoodIn wsL_law [Cond.codeWith yL_waited cL_waited 4 (some .int) [(0, 9, 12, 35)]] := goodIn_r _ [441] (by decide +kernel) (by decide +kernel)
set_option maxRecDepth 20000 in
theorem ggL_law_L_waited_c1 : GoodIn wsL_law wsL_waited_r1 := goodIn_r _ [361, 442, 443, 444, 2, 445, 446, 413, 414, 415, 416, 371, 372, 18, 417, 124, 125, 126, 16, 127, 78, 128, 129, 130] (by decide +kernel) (by decide +kernel)
set_option maxRecDepth 20000 in
theorem ggL_law_L_waited_c2 : GoodIn wsL_law wsL_waited_r2 := goodIn_r _ [131, 132, 133, 134, 135, 136, 137, 138, 139, 140, 141, 142, 143, 30] (by decide +kernel) (by decide +kernel)
set_option maxRecDepth 20000 in
theorem ggL_law_L_waited_c3 : GoodIn wsL_law wsX20 := goodIn_r _ [1246, 1247, 1248, 1249, 1250, 1251, 1252] (by decide +kernel) (by decide +kernel)
set_option maxRecDepth 20000 in
theorem ggL_law_L_waited_c4 : GoodIn wsL_law wsX30 := goodIn_r _ [1172, 1173, 1174, 1175, 1176, 1177, 1178, 1179, 1180, 1181, 1182, 1183] (by decide +kernel) (by decide +kernel)
set_option maxRecDepth 20000 in
theorem ggL_law_L_waited_c5 : GoodIn wsL_law wsJx4a65c0 := goodIn_r _ [1196, 1197, 1198] (by decide +kernel) (by decide +kernel)
set_option maxRecDepth 20000 in
theorem ggL_law_L_waited : GoodIn wsL_law wsL_waited := goodIn_ca (goodIn_ca (tw_gc ggL_law_L_waited_c0 (goodIn_app (goodIn_app (goodIn_app (goodIn_app ggL_law_L_waited_c1 ggL_law_L_waited_c2) ggL_law_L_waited_c3) ggL_law_L_waited_c4) ggL_law_L_waited_c5)) (goodIn_sub (fun _ h => List.mem_append_left _ (List.mem_append_left _ (List.mem_append_left _ (List.mem_append_left _ (List.mem_append_left _ (List.mem_append_left _ (List.mem_append_left _ (List.mem_append_right _ h)))))))) (by decide +kernel))) (goodIn_sub (fun _ h => List.mem_append_left _ (List.mem_append_left _ (List.mem_append_left _ (List.mem_append_right _ h)))) (by decide +kernel))
set_option maxRecDepth 20000 in
theorem gL_law_L_waited : GoodIn wsL_law (va_wsS RL 156 yL_waited wsL_waited) := goodIn_app (goodIn_of _ (by decide +kernel)) ggL_law_L_waited
theorem dL_law_749 : decode cL_law 749 = .ok (.invokestatic 156, 3) := by decide +kernel
theorem dL_law_752 : decode cL_law 752 = .ok (.istore 6, 2) := by decide +kernel
theorem dL_law_754 : decode cL_law 754 = .ok (.aload_n 2, 1) := by decide +kernel
theorem dL_law_755 : decode cL_law 755 = .ok (.aload_n 0, 1) := by decide +kernel
theorem dL_law_756 : decode cL_law 756 = .ok (.iload 5, 2) := by decide +kernel
theorem dL_law_758 : decode cL_law 758 = .ok (.iconst 1, 1) := by decide +kernel
theorem dL_law_759 : decode cL_law 759 = .ok (.iadd, 1) := by decide +kernel
theorem dL_law_760 : decode cL_law 760 = .ok (.iaload, 1) := by decide +kernel
set_option maxRecDepth 20000 in
theorem ggL_law_X6_waited_c0 : GoodIn wsL_law [Cond.code yX6_waited cX6_waited 2 (some .int)] := goodIn_r _ [450] (by decide +kernel) (by decide +kernel)
set_option maxRecDepth 20000 in
theorem ggL_law_X6_waited_c1 : GoodIn wsL_law wsX6_waited_r1 := goodIn_r _ [55, 422, 423, 424, 425, 5, 426, 283, 125, 126, 16, 127, 78, 83, 84, 85, 385, 129, 130, 131, 132, 133, 134, 135] (by decide +kernel) (by decide +kernel)
set_option maxRecDepth 20000 in
theorem ggL_law_X6_waited_c2 : GoodIn wsL_law wsX6_waited_r2 := goodIn_r _ [136, 137, 138, 139, 140, 141, 142, 143, 30, 92, 93, 94, 95, 90, 86, 87, 88, 89] (by decide +kernel) (by decide +kernel)
set_option maxRecDepth 20000 in
theorem ggL_law_X6_waited_c3 : GoodIn wsL_law wsX60 := goodIn_r _ [1184, 1185, 1186, 1187, 1188, 1189, 1190, 1191, 1192, 1193, 1194, 1195] (by decide +kernel) (by decide +kernel)
set_option maxRecDepth 20000 in
theorem ggL_law_X6_waited_c4 : GoodIn wsL_law wsX50 := goodIn_r _ [1238, 1239, 1240, 1241, 1242, 1243, 1244, 1245] (by decide +kernel) (by decide +kernel)
set_option maxRecDepth 20000 in
theorem ggL_law_X6_waited_c5 : GoodIn wsL_law wsJx4a65c0 := goodIn_r _ [1196, 1197, 1198] (by decide +kernel) (by decide +kernel)
set_option maxRecDepth 20000 in
theorem ggL_law_X6_waited : GoodIn wsL_law wsX6_waited := tw_gc ggL_law_X6_waited_c0 (goodIn_app (goodIn_app (goodIn_app (goodIn_app ggL_law_X6_waited_c1 ggL_law_X6_waited_c2) ggL_law_X6_waited_c3) ggL_law_X6_waited_c4) ggL_law_X6_waited_c5)
set_option maxRecDepth 20000 in
theorem gL_law_X6_waited : GoodIn wsL_law (wsV RL 158 RX6 yX6_waited wsX6_waited) := goodIn_app (goodIn_of _ (by decide +kernel)) ggL_law_X6_waited
theorem dL_law_761 : decode cL_law 761 = .ok (.invokevirtual 158, 3) := by decide +kernel
theorem dL_law_764 : decode cL_law 764 = .ok (.istore 7, 2) := by decide +kernel
theorem dL_law_766 : decode cL_law 766 = .ok (.aload_n 2, 1) := by decide +kernel
theorem dL_law_767 : decode cL_law 767 = .ok (.invokevirtual 127, 3) := by decide +kernel
theorem dL_law_770 : decode cL_law 770 = .ok (.iload 6, 2) := by decide +kernel
theorem dL_law_772 : decode cL_law 772 = .ok (.if_icmp .eq 5, 3) := by decide +kernel
theorem dL_law_777 : decode cL_law 777 = .ok (.iload 6, 2) := by decide +kernel
theorem dL_law_779 : decode cL_law 779 = .ok (.ifCond .ne 15, 3) := by decide +kernel
theorem dL_law_794 : decode cL_law 794 = .ok (.goto 1262, 3) := by decide +kernel
theorem dL_law_797 : decode cL_law 797 = .ok (.aload_n 1, 1) := by decide +kernel
theorem dL_law_798 : decode cL_law 798 = .ok (.aload_n 0, 1) := by decide +kernel
theorem dL_law_799 : decode cL_law 799 = .ok (.iload 5, 2) := by decide +kernel
theorem dL_law_801 : decode cL_law 801 = .ok (.iconst 1, 1) := by decide +kernel
theorem dL_law_802 : decode cL_law 802 = .ok (.iadd, 1) := by decide +kernel
theorem dL_law_803 : decode cL_law 803 = .ok (.iaload, 1) := by decide +kernel
theorem dL_law_804 : decode cL_law 804 = .ok (.aload_n 3, 1) := by decide +kernel
set_option maxRecDepth 20000 in
theorem ggL_law_L_pass_c0 : GoodIn wsL_law [Cond.codeWith yL_pass cL_pass 4 (some .int) [(0, 9, 12, 13)]] := goodIn_r _ [453] (by decide +kernel) (by decide +kernel)
set_option maxRecDepth 20000 in
theorem ggL_law_L_pass_c1 : GoodIn wsL_law wsL_pass_r1 := goodIn_r _ [64, 454, 455, 456, 2, 457, 70, 71, 25, 458, 459, 460, 461, 462, 463, 338, 339, 18, 417, 319, 446, 464, 124, 125] (by decide +kernel) (by decide +kernel)
set_option maxRecDepth 20000 in
theorem ggL_law_L_pass_c2 : GoodIn wsL_law wsL_pass_r2 := goodIn_r _ [126, 16, 127, 78, 128, 129, 130, 131, 132, 133, 134, 135, 136, 137, 138, 139, 140, 141, 142, 143, 30, 465, 466, 467] (by decide +kernel) (by decide +kernel)
set_option maxRecDepth 20000 in
theorem ggL_law_L_pass_c3 : GoodIn wsL_law wsL_pass_r3 := goodIn_r _ [468, 17, 122, 469, 470, 332, 333, 334, 335, 336, 337, 340, 173, 174, 471, 472, 473, 474, 23, 329, 330, 331, 475, 476] (by decide +kernel) (by decide +kernel)
set_option maxRecDepth 20000 in
theorem ggL_law_L_pass_c4 : GoodIn wsL_law wsL_pass_r4 := goodIn_r _ [477, 478, 24, 479, 480, 481, 482, 483, 484, 485, 486, 487, 488, 489, 112, 490, 152, 169, 491, 492, 493, 494, 495, 496] (by decide +kernel) (by decide +kernel)
set_option maxRecDepth 20000 in
theorem ggL_law_L_pass_c5 : GoodIn wsL_law wsL_pass_r5 := goodIn_r _ [497, 498, 499, 500, 501, 201, 502, 503, 504, 505, 506, 165, 151, 149, 507, 508, 509, 510, 511, 512, 513, 514, 515, 516] (by decide +kernel) (by decide +kernel)
set_option maxRecDepth 20000 in
theorem ggL_law_L_pass_c6 : GoodIn wsL_law wsL_pass_r6 := goodIn_r _ [517, 518, 519, 520, 521, 522, 523, 524, 525, 526, 527, 528, 529, 530, 531, 532, 533, 150, 534, 535, 536, 537, 538, 539] (by decide +kernel) (by decide +kernel)
set_option maxRecDepth 20000 in
theorem ggL_law_L_pass_c7 : GoodIn wsL_law wsL_pass_r7 := goodIn_r _ [540, 541, 542, 543, 544, 545, 546, 547, 548, 549, 550, 551, 552, 179, 166, 553, 227, 228, 554, 200, 202, 555, 154, 155] (by decide +kernel) (by decide +kernel)
set_option maxRecDepth 20000 in
theorem ggL_law_L_pass_c8 : GoodIn wsL_law wsL_pass_r8 := goodIn_r _ [156, 157, 556, 557, 558, 559, 560, 561, 562, 563, 318, 564, 328, 565, 566, 567, 568, 569, 570, 571, 572, 22, 113, 573] (by decide +kernel) (by decide +kernel)
set_option maxRecDepth 20000 in
theorem ggL_law_L_pass_c9 : GoodIn wsL_law wsL_pass_r9 := goodIn_r _ [574, 575, 21, 576, 577, 46, 578, 579, 580, 215, 581, 582, 583, 584, 585, 586, 587, 45, 226, 229, 230, 231, 232, 588] (by decide +kernel) (by decide +kernel)
set_option maxRecDepth 20000 in
theorem ggL_law_L_pass_c10 : GoodIn wsL_law wsL_pass_r10 := goodIn_r _ [589, 590, 591, 592, 593, 594, 595, 596, 597, 598, 599, 600, 601, 602, 603, 604, 605, 606, 607, 608, 609, 610, 611, 612] (by decide +kernel) (by decide +kernel)
set_option maxRecDepth 20000 in
theorem ggL_law_L_pass_c11 : GoodIn wsL_law wsL_pass_r11 := goodIn_r _ [153, 114, 115, 116, 117, 613, 614, 615, 616, 617, 618, 619, 620, 621, 622, 623, 624, 434, 625, 626, 627, 628, 629, 630] (by decide +kernel) (by decide +kernel)
set_option maxRecDepth 20000 in
theorem ggL_law_L_pass_c12 : GoodIn wsL_law wsL_pass_r12 := goodIn_r _ [631, 632, 164, 633, 634, 635, 636, 637, 638, 639, 640, 641, 642, 643, 644, 645, 646, 647, 648, 649, 650, 651, 652, 653] (by decide +kernel) (by decide +kernel)
set_option maxRecDepth 20000 in
theorem ggL_law_L_pass_c13 : GoodIn wsL_law wsL_pass_r13 := goodIn_r _ [654, 655, 656, 657, 658, 659, 660, 661, 662, 663, 664, 665, 666, 667, 668, 669, 167] (by decide +kernel) (by decide +kernel)
set_option maxRecDepth 20000 in
theorem ggL_law_L_pass_c14 : GoodIn wsL_law wsX30 := goodIn_r _ [1172, 1173, 1174, 1175, 1176, 1177, 1178, 1179, 1180, 1181, 1182, 1183] (by decide +kernel) (by decide +kernel)
set_option maxRecDepth 20000 in
theorem ggL_law_L_pass_c15 : GoodIn wsL_law wsX20 := goodIn_r _ [1246, 1247, 1248, 1249, 1250, 1251, 1252] (by decide +kernel) (by decide +kernel)
set_option maxRecDepth 20000 in
theorem ggL_law_L_pass_c16 : GoodIn wsL_law wsJx4a65c0 := goodIn_r _ [1196, 1197, 1198] (by decide +kernel) (by decide +kernel)
set_option maxRecDepth 20000 in
theorem ggL_law_L_pass_c17 : GoodIn wsL_law wsX00 := goodIn_r _ [1201, 1202, 1203, 1204, 1205, 1206, 1207, 1208, 1209, 1210, 1211, 1212, 1213, 1214, 1215, 1216, 1217, 1218, 1219] (by decide +kernel) (by decide +kernel)
set_option maxRecDepth 20000 in
theorem ggL_law_L_pass_c18 : GoodIn wsL_law wsX10 := goodIn_r _ [1199, 1200] (by decide +kernel) (by decide +kernel)
set_option maxRecDepth 20000 in
theorem ggL_law_L_pass : GoodIn wsL_law wsL_pass := goodIn_ca (goodIn_ca (goodIn_ca (tw_gc ggL_law_L_pass_c0 (goodIn_app (goodIn_app (goodIn_app (goodIn_app (goodIn_app (goodIn_app ggL_law_L_pass_c1 (goodIn_app ggL_law_L_pass_c2 (goodIn_app ggL_law_L_pass_c3 (goodIn_app ggL_law_L_pass_c4 (goodIn_app ggL_law_L_pass_c5 (goodIn_app ggL_law_L_pass_c6 (goodIn_app ggL_law_L_pass_c7 (goodIn_app ggL_law_L_pass_c8 (goodIn_app ggL_law_L_pass_c9 (goodIn_app ggL_law_L_pass_c10 (goodIn_app ggL_law_L_pass_c11 (goodIn_app ggL_law_L_pass_c12 ggL_law_L_pass_c13)))))))))))) ggL_law_L_pass_c14) ggL_law_L_pass_c15) ggL_law_L_pass_c16) ggL_law_L_pass_c17) ggL_law_L_pass_c18)) (goodIn_sub (fun _ h => List.mem_append_left _ (List.mem_append_left _ (List.mem_append_left _ (List.mem_append_left _ (List.mem_append_left _ (List.mem_append_left _ (List.mem_append_left _ (List.mem_append_right _ h)))))))) (by decide +kernel))) (goodIn_sub (fun _ h => List.mem_append_left _ (List.mem_append_left _ (List.mem_append_left _ (List.mem_append_left _ (List.mem_append_left _ (List.mem_append_left _ (List.mem_append_right _ h))))))) (by decide +kernel))) (goodIn_sub (fun _ h => List.mem_append_left _ (List.mem_append_left _ (List.mem_append_right _ h))) (by decide +kernel))
set_option maxRecDepth 20000 in
theorem gL_law_L_pass : GoodIn wsL_law (va_wsS RL 159 yL_pass wsL_pass) := goodIn_app (goodIn_of _ (by decide +kernel)) ggL_law_L_pass
theorem dL_law_805 : decode cL_law 805 = .ok (.invokestatic 159, 3) := by decide +kernel
theorem dL_law_808 : decode cL_law 808 = .ok (.istore 6, 2) := by decide +kernel
theorem dL_law_810 : decode cL_law 810 = .ok (.aload_n 2, 1) := by decide +kernel
theorem dL_law_811 : decode cL_law 811 = .ok (.aload_n 0, 1) := by decide +kernel
theorem dL_law_812 : decode cL_law 812 = .ok (.iload 5, 2) := by decide +kernel
theorem dL_law_814 : decode cL_law 814 = .ok (.iconst 1, 1) := by decide +kernel
theorem dL_law_815 : decode cL_law 815 = .ok (.iadd, 1) := by decide +kernel
theorem dL_law_816 : decode cL_law 816 = .ok (.iaload, 1) := by decide +kernel
set_option maxRecDepth 20000 in
theorem ggL_law_X6_pass_c0 : GoodIn wsL_law [Cond.code yX6_pass cX6_pass 3 (some .int)] := goodIn_r _ [673] (by decide +kernel) (by decide +kernel)
set_option maxRecDepth 20000 in
theorem ggL_law_X6_pass_c1 : GoodIn wsL_law wsX6_pass_r1 := goodIn_r _ [674, 83, 84, 5, 85, 86, 87, 88, 89, 90, 675, 676, 677, 678, 55, 422, 57, 679, 54, 237, 245, 246, 247, 16] (by decide +kernel) (by decide +kernel)
set_option maxRecDepth 20000 in
theorem ggL_law_X6_pass_c2 : GoodIn wsL_law wsX6_pass_r2 := goodIn_r _ [248, 249, 250, 251, 252, 253, 254, 255, 256, 12, 13, 257, 258, 186, 259, 260, 261, 262, 263, 264, 265, 266, 267, 268] (by decide +kernel) (by decide +kernel)
set_option maxRecDepth 20000 in
theorem ggL_law_X6_pass_c3 : GoodIn wsL_law wsX6_pass_r3 := goodIn_r _ [269, 270, 271, 272, 273, 680, 681, 682, 683, 51, 56, 684, 685, 686, 687, 688, 689, 690, 347, 691, 355, 354, 692, 693] (by decide +kernel) (by decide +kernel)
set_option maxRecDepth 20000 in
theorem ggL_law_X6_pass_c4 : GoodIn wsL_law wsX6_pass_r4 := goodIn_r _ [694, 695, 696, 697, 698, 699, 700, 701, 702, 52, 91, 75, 76, 77, 78, 283, 125, 126, 127, 385, 129, 130, 131, 132] (by decide +kernel) (by decide +kernel)
set_option maxRecDepth 20000 in
theorem ggL_law_X6_pass_c5 : GoodIn wsL_law wsX6_pass_r5 := goodIn_r _ [133, 134, 135, 136, 137, 138, 139, 140, 141, 142, 143, 30, 703, 704, 705, 706, 398, 399, 400, 240, 401, 292, 402, 403] (by decide +kernel) (by decide +kernel)
set_option maxRecDepth 20000 in
theorem ggL_law_X6_pass_c6 : GoodIn wsL_law wsX6_pass_r6 := goodIn_r _ [404, 405, 293, 278, 296, 707, 708, 709, 710, 711, 501, 201, 502, 712, 713, 714, 715, 295, 716, 717, 242, 243, 244, 718] (by decide +kernel) (by decide +kernel)
set_option maxRecDepth 20000 in
theorem ggL_law_X6_pass_c7 : GoodIn wsL_law wsX6_pass_r7 := goodIn_r _ [719, 720, 721, 279, 280, 281, 282, 722, 723, 724, 725, 726, 727, 728, 729, 730, 731, 732, 733, 734, 735, 736, 737, 738] (by decide +kernel) (by decide +kernel)
set_option maxRecDepth 20000 in
theorem ggL_law_X6_pass_c8 : GoodIn wsL_law wsX6_pass_r8 := goodIn_r _ [739, 740, 741, 742, 743, 744, 745, 746, 747, 748, 749, 750, 751, 752, 753, 754, 755, 756, 58, 45, 297, 182, 183, 184] (by decide +kernel) (by decide +kernel)
set_option maxRecDepth 20000 in
theorem ggL_law_X6_pass_c9 : GoodIn wsL_law wsX6_pass_r9 := goodIn_r _ [185, 187, 188, 189, 190, 191, 192, 193, 194, 195, 196, 197, 198, 29, 199, 200, 202, 203, 204, 205, 206, 207, 208, 209] (by decide +kernel) (by decide +kernel)
set_option maxRecDepth 20000 in
theorem ggL_law_X6_pass_c10 : GoodIn wsL_law wsX6_pass_r10 := goodIn_r _ [210, 211, 212, 213, 214, 215, 216, 217, 218, 219, 220, 221, 222, 223, 224, 225, 226, 227, 228, 229, 230, 231, 232, 757] (by decide +kernel) (by decide +kernel)
set_option maxRecDepth 20000 in
theorem ggL_law_X6_pass_c11 : GoodIn wsL_law wsX6_pass_r11 := goodIn_r _ [758, 521, 759, 760, 761, 762, 763, 764, 765, 766, 767, 768, 769, 770, 771, 772, 773, 774, 241, 775, 776, 777, 778, 779] (by decide +kernel) (by decide +kernel)
set_option maxRecDepth 20000 in
theorem ggL_law_X6_pass_c12 : GoodIn wsL_law wsX6_pass_r12 := goodIn_r _ [780, 781, 782, 783, 784, 785, 786, 787, 788, 789, 790, 791, 792, 793, 794, 795, 796, 797, 798, 799, 92, 93, 94, 95] (by decide +kernel) (by decide +kernel)
set_option maxRecDepth 20000 in
theorem ggL_law_X6_pass_c13 : GoodIn wsL_law wsX60 := goodIn_r _ [1184, 1185, 1186, 1187, 1188, 1189, 1190, 1191, 1192, 1193, 1194, 1195] (by decide +kernel) (by decide +kernel)
set_option maxRecDepth 20000 in
theorem ggL_law_X6_pass_c14 : GoodIn wsL_law wsX50 := goodIn_r _ [1238, 1239, 1240, 1241, 1242, 1243, 1244, 1245] (by decide +kernel) (by decide +kernel)
set_option maxRecDepth 20000 in
theorem ggL_law_X6_pass_c15 : GoodIn wsL_law wsX40 := goodIn_r _ [1220, 1221, 1222, 1223, 1224, 1225, 1226, 1227, 1228, 1229, 1230, 1231, 1232, 1233] (by decide +kernel) (by decide +kernel)
set_option maxRecDepth 20000 in
theorem ggL_law_X6_pass_c16 : GoodIn wsL_law wsJx354110 := goodIn_r _ [1234, 1235, 1236, 1237] (by decide +kernel) (by decide +kernel)
set_option maxRecDepth 20000 in
theorem ggL_law_X6_pass_c17 : GoodIn wsL_law wsJx4a65c0 := goodIn_r _ [1196, 1197, 1198] (by decide +kernel) (by decide +kernel)
set_option maxRecDepth 20000 in
theorem ggL_law_X6_pass : GoodIn wsL_law wsX6_pass := goodIn_ca (goodIn_ca (tw_gc ggL_law_X6_pass_c0 (goodIn_app (goodIn_app (goodIn_app (goodIn_app (goodIn_app (goodIn_app ggL_law_X6_pass_c1 (goodIn_app ggL_law_X6_pass_c2 (goodIn_app ggL_law_X6_pass_c3 (goodIn_app ggL_law_X6_pass_c4 (goodIn_app ggL_law_X6_pass_c5 (goodIn_app ggL_law_X6_pass_c6 (goodIn_app ggL_law_X6_pass_c7 (goodIn_app ggL_law_X6_pass_c8 (goodIn_app ggL_law_X6_pass_c9 (goodIn_app ggL_law_X6_pass_c10 (goodIn_app ggL_law_X6_pass_c11 ggL_law_X6_pass_c12))))))))))) ggL_law_X6_pass_c13) ggL_law_X6_pass_c14) ggL_law_X6_pass_c15) ggL_law_X6_pass_c16) ggL_law_X6_pass_c17)) (goodIn_sub (fun _ h => List.mem_append_left _ (List.mem_append_left _ (List.mem_append_right _ h))) (by decide +kernel))) (goodIn_sub (fun _ h => List.mem_append_left _ (List.mem_append_left _ (List.mem_append_left _ (List.mem_append_left _ (List.mem_append_left _ (List.mem_append_left _ (List.mem_append_left _ (List.mem_append_right _ h)))))))) (by decide +kernel))
set_option maxRecDepth 20000 in
theorem gL_law_X6_pass : GoodIn wsL_law (wsV RL 161 RX6 yX6_pass wsX6_pass) := goodIn_app (goodIn_of _ (by decide +kernel)) ggL_law_X6_pass
theorem dL_law_817 : decode cL_law 817 = .ok (.invokevirtual 161, 3) := by decide +kernel
theorem dL_law_820 : decode cL_law 820 = .ok (.istore 7, 2) := by decide +kernel
theorem dL_law_822 : decode cL_law 822 = .ok (.aload_n 2, 1) := by decide +kernel
theorem dL_law_823 : decode cL_law 823 = .ok (.invokevirtual 127, 3) := by decide +kernel
theorem dL_law_826 : decode cL_law 826 = .ok (.iload 6, 2) := by decide +kernel
theorem dL_law_828 : decode cL_law 828 = .ok (.if_icmp .eq 5, 3) := by decide +kernel
theorem dL_law_833 : decode cL_law 833 = .ok (.iload 6, 2) := by decide +kernel
theorem dL_law_835 : decode cL_law 835 = .ok (.ifCond .ne 15, 3) := by decide +kernel
theorem dL_law_850 : decode cL_law 850 = .ok (.goto 1206, 3) := by decide +kernel
theorem dL_law_838 : decode cL_law 838 = .ok (.aload_n 3, 1) := by decide +kernel
theorem dL_law_839 : decode cL_law 839 = .ok (.iconst 0, 1) := by decide +kernel
theorem dL_law_840 : decode cL_law 840 = .ok (.laload, 1) := by decide +kernel
theorem dL_law_841 : decode cL_law 841 = .ok (.iload 7, 2) := by decide +kernel
theorem dL_law_843 : decode cL_law 843 = .ok (.i2l, 1) := by decide +kernel
theorem dL_law_844 : decode cL_law 844 = .ok (.lcmp, 1) := by decide +kernel
theorem dL_law_845 : decode cL_law 845 = .ok (.ifCond .eq 5, 3) := by decide +kernel
set_option maxHeartbeats 4000000 in
set_option maxRecDepth 100000 in
theorem tw_case_8 {p : Program} {l : Launch} {e : Env} {s : State} {m : MethodId} {below : List Frame} {meth : Method} {c : Code} {b : Nat} {xs : Nat → Int32} (C0 : lw_At p s m meth c b 6 xs) (hst : l.stackTraces = false) {A : Nat → Prop} (hAe : A = fun q : Nat => s.heap.size ≤ q) (em kw kb : Nat) (D : va_G) (hF : tw_F em kw kb A s) (q_1 : Nat) (q_2 : Nat) (q_3 : Nat) (q_4 : Nat) (q_5 : Nat) (cA_6 : ClassId) (q_7 : Nat) (q_8 : Nat) (q_9 : Nat) (q_10 : Nat) (q_11 : Nat) (q_12 : Nat) (cA_13 : ClassId) (cA_14 : ClassId) (q_15 : Nat) (q_16 : Nat) (cA_17 : ClassId) (q_18 : Nat) (cA_19 : ClassId) (H : Heap) (locs : List Loc) (hK : va_K D vwCl [(cA_6, .int), (cA_13, .array (.object "TowerliftryModel$Car")), (cA_14, .object "TowerliftryModel$Car"), (cA_17, .long), (cA_19, .double)] s) (hP : va_P D vwCl [(q_1, .inr (7, [.ref q_2, .ref q_3, .ref q_4, .int 9, .int 99, .int 0, .int 0, .int 0, .int ((-1)), .int 0, .int 0, .long 0])), (q_2, .inr (3, [.int 0, .ref em, .int 0])), (q_3, .inr (3, [.int 0, .ref em, .int 0])), (q_4, .inr (5, [.ref q_5, .int 0])), (q_5, .inl (cA_6, 256, .inl ((fun _ => 0)))), (q_7, .inr (10, [.int 0, .int 9, .int 0, .int 99, .ref q_8, .ref q_9, .ref q_10, .int 0, .int 0, .int ((-1)), .ref q_15, .long 0])), (q_8, .inr (3, [.int 0, .ref em, .int 0])), (q_9, .inr (3, [.int 0, .ref em, .int 0])), (q_10, .inl (cA_13, 2, .inr (.inr (.inr (.inr ((tw_two q_11 q_12))))))), (q_11, .inl (cA_14, 24, .inr (.inr (.inr (.inr ((fun _ => none))))))), (q_12, .inl (cA_14, 24, .inr (.inr (.inr (.inr ((fun _ => none))))))), (q_15, .inr (3, [.int 0, .ref em, .int 0])), (q_16, .inl (cA_17, 1, .inr (.inl ((fun _ => 0))))), (q_18, .inl (cA_19, 1, .inr (.inr (.inr (.inl ((fun _ => 0)))))))] H) (hD : va_D A [(q_1, .inr (7, [.ref q_2, .ref q_3, .ref q_4, .int 9, .int 99, .int 0, .int 0, .int 0, .int ((-1)), .int 0, .int 0, .long 0])), (q_2, .inr (3, [.int 0, .ref em, .int 0])), (q_3, .inr (3, [.int 0, .ref em, .int 0])), (q_4, .inr (5, [.ref q_5, .int 0])), (q_5, .inl (cA_6, 256, .inl ((fun _ => 0)))), (q_7, .inr (10, [.int 0, .int 9, .int 0, .int 99, .ref q_8, .ref q_9, .ref q_10, .int 0, .int 0, .int ((-1)), .ref q_15, .long 0])), (q_8, .inr (3, [.int 0, .ref em, .int 0])), (q_9, .inr (3, [.int 0, .ref em, .int 0])), (q_10, .inl (cA_13, 2, .inr (.inr (.inr (.inr ((tw_two q_11 q_12))))))), (q_11, .inl (cA_14, 24, .inr (.inr (.inr (.inr ((fun _ => none))))))), (q_12, .inl (cA_14, 24, .inr (.inr (.inr (.inr ((fun _ => none))))))), (q_15, .inr (3, [.int 0, .ref em, .int 0])), (q_16, .inl (cA_17, 1, .inr (.inl ((fun _ => 0))))), (q_18, .inl (cA_19, 1, .inr (.inr (.inr (.inl ((fun _ => 0)))))))]) (hS : va_S A s.heap H locs) (ls : Array Slot) (hl : lv_has ls 9 [(5, .int 0), (4, .ref q_18), (3, .ref q_16), (2, .ref q_7), (1, .ref q_1), (0, .ref b)]) : W p l e room_1 s m #[Value.ref b] below meth c H locs 14 349 (lw_Z below #[Value.ref b] s) (F0 m 741 ls []) := by
  obtain ⟨hx, hb, hr, hml, hown, hts0, hX, hbl, hlocks, hgv⟩ := id C0
  have hown : s.vm.findClass RL = some m.cls := hown
  have hts : ∀ w ∈ wsL_law, w.before #[Value.ref b] s = true := fun w h => hts0 w (wsL_law_in w h)
  have hA : ∀ q : Nat, s.heap.size ≤ q → A q := fun q h => by rw [hAe]; exact h
  have hbA : ¬ A b := by rw [hAe]; exact Nat.not_le.mpr hbl
  refine lv_aload_n hx hb dL_law_741 rfl (lv_at hl 4 rfl) ?_
  refine lv_aload_n hx hb dL_law_742 rfl (lv_at hl 5 rfl) ?_
  refine lv_iload hx hb dL_law_743 (lv_at hl 0 rfl) ?_
  refine lv_iconst (v := 1) hx hb dL_law_745 (by decide) ?_
  refine lv_iadd hx hb dL_law_746 ?_
  refine lv_topi (fun z_1 ez_1 => ?_)
  have ez_1 : z_1 = (1 : Int32) := ez_1.trans (by decide)
  subst ez_1
  refine va_sld hx hb hX hbl hbA hS (by unfold vp_in; decide) dL_law_747 ?_
  rw [show (1 : Int32).toNatClampNeg = 1 from by decide]
  refine lv_aload_n hx hb dL_law_748 rfl (lv_at hl 2 rfl) ?_
  have hPc := hP.sub (ws' := [(q_1, .inr (7, [.ref q_2, .ref q_3, .ref q_4, .int 9, .int 99, .int 0, .int 0, .int 0, .int ((-1)), .int 0, .int 0, .long 0])), (q_3, .inr (3, [.int 0, .ref em, .int 0])), (q_16, .inl (cA_17, 1, .inr (.inl ((fun _ => 0)))))]) [0, 2, 12] rfl
  have hDc := hD.sub (ws' := [(q_1, .inr (7, [.ref q_2, .ref q_3, .ref q_4, .int 9, .int 99, .int 0, .int 0, .int 0, .int ((-1)), .int 0, .int 0, .long 0])), (q_3, .inr (3, [.int 0, .ref em, .int 0])), (q_16, .inl (cA_17, 1, .inr (.inl ((fun _ => 0)))))]) [0, 2, 12] (by decide) rfl
  have hKc := hK.sub (tys' := [(cA_17, .long)]) [3] rfl
  have hFc := va_free (wc := [(q_1, .inr (7, [.ref q_2, .ref q_3, .ref q_4, .int 9, .int 99, .int 0, .int 0, .int 0, .int ((-1)), .int 0, .int 0, .long 0])), (q_3, .inr (3, [.int 0, .ref em, .int 0])), (q_16, .inl (cA_17, 1, .inr (.inl ((fun _ => 0)))))]) hD hS hA [0, 2, 12] rfl
  refine va_calli (vx_runSW (As := [.ref q_1, .int ((xs 1)), .ref q_16]) (rest := []) ⟨hx, hb, hml, hown, hts⟩ (c_L_waited l hst em kw kb D q_1 ((xs 1)) q_16 q_2 q_3 q_4 cA_17 _) (vx_cwSW 3 hts gL_law_L_waited rfl rfl rfl (by decide +kernel) ⟨(Nat.le_of_ble_eq_true rfl), (Nat.le_of_ble_eq_true rfl)⟩) (tw_preS hF hS hFc hPc hKc hDc) rfl rfl hl.1 rfl (lv_room (Nat.le_of_ble_eq_true rfl)) dL_law_749 ⟨(Nat.le_of_ble_eq_true rfl), (Nat.le_of_ble_eq_true rfl)⟩) hS (fun q _ h => hFc q h) hFc (fun r u t H locs ht hvm hw hB hz1 hk1 hS => ?_)
  obtain ⟨rfl, rfl⟩ := hw
  obtain ⟨hP, hD, hK⟩ := tw_join (wr := [(q_2, .inr (3, [.int 0, .ref em, .int 0])), (q_4, .inr (5, [.ref q_5, .int 0])), (q_5, .inl (cA_6, 256, .inl ((fun _ => 0)))), (q_7, .inr (10, [.int 0, .int 9, .int 0, .int 99, .ref q_8, .ref q_9, .ref q_10, .int 0, .int 0, .int ((-1)), .ref q_15, .long 0])), (q_8, .inr (3, [.int 0, .ref em, .int 0])), (q_9, .inr (3, [.int 0, .ref em, .int 0])), (q_10, .inl (cA_13, 2, .inr (.inr (.inr (.inr ((tw_two q_11 q_12))))))), (q_11, .inl (cA_14, 24, .inr (.inr (.inr (.inr ((fun _ => none))))))), (q_12, .inl (cA_14, 24, .inr (.inr (.inr (.inr ((fun _ => none))))))), (q_15, .inr (3, [.int 0, .ref em, .int 0])), (q_18, .inl (cA_19, 1, .inr (.inr (.inr (.inl ((fun _ => 0)))))))]) hP hD hK [0, 2, 12] [1, 3, 4, 5, 6, 7, 8, 9, 10, 11, 13] rfl rfl (by decide) (by decide) hk1 hFc ht hvm hB
  have hP : va_P D vwCl [(q_2, .inr (3, [.int 0, .ref em, .int 0])), (q_4, .inr (5, [.ref q_5, .int 0])), (q_5, .inl (cA_6, 256, .inl ((fun _ => 0)))), (q_7, .inr (10, [.int 0, .int 9, .int 0, .int 99, .ref q_8, .ref q_9, .ref q_10, .int 0, .int 0, .int ((-1)), .ref q_15, .long 0])), (q_8, .inr (3, [.int 0, .ref em, .int 0])), (q_9, .inr (3, [.int 0, .ref em, .int 0])), (q_10, .inl (cA_13, 2, .inr (.inr (.inr (.inr ((tw_two q_11 q_12))))))), (q_11, .inl (cA_14, 24, .inr (.inr (.inr (.inr ((fun _ => none))))))), (q_12, .inl (cA_14, 24, .inr (.inr (.inr (.inr ((fun _ => none))))))), (q_15, .inr (3, [.int 0, .ref em, .int 0])), (q_18, .inl (cA_19, 1, .inr (.inr (.inr (.inl ((fun _ => 0))))))), (q_16, .inl (cA_17, 1, .inr (.inl ((fun _ => 0)))))] _ := hP
  have hD : va_D A [(q_2, .inr (3, [.int 0, .ref em, .int 0])), (q_4, .inr (5, [.ref q_5, .int 0])), (q_5, .inl (cA_6, 256, .inl ((fun _ => 0)))), (q_7, .inr (10, [.int 0, .int 9, .int 0, .int 99, .ref q_8, .ref q_9, .ref q_10, .int 0, .int 0, .int ((-1)), .ref q_15, .long 0])), (q_8, .inr (3, [.int 0, .ref em, .int 0])), (q_9, .inr (3, [.int 0, .ref em, .int 0])), (q_10, .inl (cA_13, 2, .inr (.inr (.inr (.inr ((tw_two q_11 q_12))))))), (q_11, .inl (cA_14, 24, .inr (.inr (.inr (.inr ((fun _ => none))))))), (q_12, .inl (cA_14, 24, .inr (.inr (.inr (.inr ((fun _ => none))))))), (q_15, .inr (3, [.int 0, .ref em, .int 0])), (q_18, .inl (cA_19, 1, .inr (.inr (.inr (.inl ((fun _ => 0))))))), (q_16, .inl (cA_17, 1, .inr (.inl ((fun _ => 0)))))] := hD
  have hK : va_K D vwCl [(cA_6, .int), (cA_13, .array (.object "TowerliftryModel$Car")), (cA_14, .object "TowerliftryModel$Car"), (cA_17, .long), (cA_19, .double)] s := hK
  refine W.widen (k := 15) (n := 355) (Nat.le_refl _) (Nat.le_refl _) ?_
  refine W.eq (g2 := F0 m 752 ls [.int 1]) rfl ?_
  refine lv_istore (lv' := [(6, .int 1), (5, .int 0), (4, .ref q_18), (3, .ref q_16), (2, .ref q_7), (1, .ref q_1), (0, .ref b)]) hx hb dL_law_752 hl (by decide) rfl (fun ls hl => ?_)
  refine lv_aload_n hx hb dL_law_754 rfl (lv_at hl 4 rfl) ?_
  refine lv_aload_n hx hb dL_law_755 rfl (lv_at hl 6 rfl) ?_
  refine lv_iload hx hb dL_law_756 (lv_at hl 1 rfl) ?_
  refine lv_iconst (v := 1) hx hb dL_law_758 (by decide) ?_
  refine lv_iadd hx hb dL_law_759 ?_
  refine lv_topi (fun z_2 ez_2 => ?_)
  have ez_2 : z_2 = (1 : Int32) := ez_2.trans (by decide)
  subst ez_2
  refine va_sld hx hb hX hbl hbA hS (by unfold vp_in; decide) dL_law_760 ?_
  rw [show (1 : Int32).toNatClampNeg = 1 from by decide]
  have hPc := hP.sub (ws' := [(q_7, .inr (10, [.int 0, .int 9, .int 0, .int 99, .ref q_8, .ref q_9, .ref q_10, .int 0, .int 0, .int ((-1)), .ref q_15, .long 0])), (q_9, .inr (3, [.int 0, .ref em, .int 0]))]) [3, 5] rfl
  have hDc := hD.sub (ws' := [(q_7, .inr (10, [.int 0, .int 9, .int 0, .int 99, .ref q_8, .ref q_9, .ref q_10, .int 0, .int 0, .int ((-1)), .ref q_15, .long 0])), (q_9, .inr (3, [.int 0, .ref em, .int 0]))]) [3, 5] (by decide) rfl
  have hKc := hK.sub (tys' := []) [] rfl
  have hFc := va_free (wc := [(q_7, .inr (10, [.int 0, .int 9, .int 0, .int 99, .ref q_8, .ref q_9, .ref q_10, .int 0, .int 0, .int ((-1)), .ref q_15, .long 0])), (q_9, .inr (3, [.int 0, .ref em, .int 0]))]) hD hS hA [3, 5] rfl
  refine va_calli (va_runV (As := [.int ((xs 1))]) (rest := []) ⟨hx, hb, hml, hown, hts⟩ (c_X6_waited l hst em kw kb D q_7 ((xs 1)) q_8 q_9 q_10 q_15 _) (cwV 1 hts gL_law_X6_waited rfl rfl rfl (by decide +kernel) ⟨(Nat.le_of_ble_eq_true rfl), (Nat.le_of_ble_eq_true rfl)⟩) (tw_preV hF hS hFc hPc hKc hDc (va_recv hKc hPc (ci := 10) (q0 := 0) rfl rfl)) rfl rfl hl.1 rfl (lv_room (Nat.le_of_ble_eq_true rfl)) dL_law_761 ⟨(Nat.le_of_ble_eq_true rfl), (Nat.le_of_ble_eq_true rfl)⟩) hS (fun q _ h => hFc q h) hFc (fun r u t H locs ht hvm hw hB hz1 hk1 hS => ?_)
  obtain ⟨rfl, rfl⟩ := hw
  obtain ⟨hP, hD, hK⟩ := tw_join (wr := [(q_2, .inr (3, [.int 0, .ref em, .int 0])), (q_4, .inr (5, [.ref q_5, .int 0])), (q_5, .inl (cA_6, 256, .inl ((fun _ => 0)))), (q_8, .inr (3, [.int 0, .ref em, .int 0])), (q_10, .inl (cA_13, 2, .inr (.inr (.inr (.inr ((tw_two q_11 q_12))))))), (q_11, .inl (cA_14, 24, .inr (.inr (.inr (.inr ((fun _ => none))))))), (q_12, .inl (cA_14, 24, .inr (.inr (.inr (.inr ((fun _ => none))))))), (q_15, .inr (3, [.int 0, .ref em, .int 0])), (q_18, .inl (cA_19, 1, .inr (.inr (.inr (.inl ((fun _ => 0))))))), (q_16, .inl (cA_17, 1, .inr (.inl ((fun _ => 0)))))]) hP hD hK [3, 5] [0, 1, 2, 4, 6, 7, 8, 9, 10, 11] rfl rfl (by decide) (by decide) hk1 hFc ht hvm hB
  have hP : va_P D vwCl [(q_2, .inr (3, [.int 0, .ref em, .int 0])), (q_4, .inr (5, [.ref q_5, .int 0])), (q_5, .inl (cA_6, 256, .inl ((fun _ => 0)))), (q_8, .inr (3, [.int 0, .ref em, .int 0])), (q_10, .inl (cA_13, 2, .inr (.inr (.inr (.inr ((tw_two q_11 q_12))))))), (q_11, .inl (cA_14, 24, .inr (.inr (.inr (.inr ((fun _ => none))))))), (q_12, .inl (cA_14, 24, .inr (.inr (.inr (.inr ((fun _ => none))))))), (q_15, .inr (3, [.int 0, .ref em, .int 0])), (q_18, .inl (cA_19, 1, .inr (.inr (.inr (.inl ((fun _ => 0))))))), (q_16, .inl (cA_17, 1, .inr (.inl ((fun _ => 0))))), (q_7, .inr (10, [.int 1, .int 9, .int 0, .int 99, .ref q_8, .ref q_9, .ref q_10, .int 0, .int 0, .int ((-1)), .ref q_15, .long 0]))] _ := hP
  have hD : va_D A [(q_2, .inr (3, [.int 0, .ref em, .int 0])), (q_4, .inr (5, [.ref q_5, .int 0])), (q_5, .inl (cA_6, 256, .inl ((fun _ => 0)))), (q_8, .inr (3, [.int 0, .ref em, .int 0])), (q_10, .inl (cA_13, 2, .inr (.inr (.inr (.inr ((tw_two q_11 q_12))))))), (q_11, .inl (cA_14, 24, .inr (.inr (.inr (.inr ((fun _ => none))))))), (q_12, .inl (cA_14, 24, .inr (.inr (.inr (.inr ((fun _ => none))))))), (q_15, .inr (3, [.int 0, .ref em, .int 0])), (q_18, .inl (cA_19, 1, .inr (.inr (.inr (.inl ((fun _ => 0))))))), (q_16, .inl (cA_17, 1, .inr (.inl ((fun _ => 0))))), (q_7, .inr (10, [.int 1, .int 9, .int 0, .int 99, .ref q_8, .ref q_9, .ref q_10, .int 0, .int 0, .int ((-1)), .ref q_15, .long 0]))] := hD
  have hK : va_K D vwCl [(cA_6, .int), (cA_13, .array (.object "TowerliftryModel$Car")), (cA_14, .object "TowerliftryModel$Car"), (cA_17, .long), (cA_19, .double)] s := hK
  refine W.widen (k := 15) (n := 355) (Nat.le_refl _) (Nat.le_refl _) ?_
  refine W.eq (g2 := F0 m 764 ls [.int 0]) rfl ?_
  refine lv_istore (lv' := [(7, .int 0), (6, .int 1), (5, .int 0), (4, .ref q_18), (3, .ref q_16), (2, .ref q_7), (1, .ref q_1), (0, .ref b)]) hx hb dL_law_764 hl (by decide) rfl (fun ls hl => ?_)
  refine lv_aload_n hx hb dL_law_766 rfl (lv_at hl 5 rfl) ?_
  have hPc := hP.sub (ws' := [(q_7, .inr (10, [.int 1, .int 9, .int 0, .int 99, .ref q_8, .ref q_9, .ref q_10, .int 0, .int 0, .int ((-1)), .ref q_15, .long 0]))]) [10] rfl
  have hDc := hD.sub (ws' := [(q_7, .inr (10, [.int 1, .int 9, .int 0, .int 99, .ref q_8, .ref q_9, .ref q_10, .int 0, .int 0, .int ((-1)), .ref q_15, .long 0]))]) [10] (by decide) rfl
  have hKc := hK.sub (tys' := []) [] rfl
  have hFc := va_free (wc := [(q_7, .inr (10, [.int 1, .int 9, .int 0, .int 99, .ref q_8, .ref q_9, .ref q_10, .int 0, .int 0, .int ((-1)), .ref q_15, .long 0]))]) hD hS hA [10] rfl
  refine va_calli (va_runV (As := []) (rest := []) ⟨hx, hb, hml, hown, hts⟩ (c_X6_thrown l hst em kw kb D q_7 1 9 0 99 q_8 q_9 q_10 0 0 ((-1)) q_15 0 _) (cwV 0 hts gL_law_X6_thrown rfl rfl rfl (by decide +kernel) ⟨(Nat.le_of_ble_eq_true rfl), (Nat.le_of_ble_eq_true rfl)⟩) (tw_preV hF hS hFc hPc hKc hDc (va_recv hKc hPc (ci := 10) (q0 := 0) rfl rfl)) rfl rfl hl.1 rfl (lv_room (Nat.le_of_ble_eq_true rfl)) dL_law_767 ⟨(Nat.le_of_ble_eq_true rfl), (Nat.le_of_ble_eq_true rfl)⟩) hS (fun q _ h => hFc q h) hFc (fun r u t H locs ht hvm hw hB hz1 hk1 hS => ?_)
  obtain ⟨rfl, rfl⟩ := hw
  obtain ⟨hP, hD, hK⟩ := tw_join (wr := [(q_2, .inr (3, [.int 0, .ref em, .int 0])), (q_4, .inr (5, [.ref q_5, .int 0])), (q_5, .inl (cA_6, 256, .inl ((fun _ => 0)))), (q_8, .inr (3, [.int 0, .ref em, .int 0])), (q_10, .inl (cA_13, 2, .inr (.inr (.inr (.inr ((tw_two q_11 q_12))))))), (q_11, .inl (cA_14, 24, .inr (.inr (.inr (.inr ((fun _ => none))))))), (q_12, .inl (cA_14, 24, .inr (.inr (.inr (.inr ((fun _ => none))))))), (q_15, .inr (3, [.int 0, .ref em, .int 0])), (q_18, .inl (cA_19, 1, .inr (.inr (.inr (.inl ((fun _ => 0))))))), (q_16, .inl (cA_17, 1, .inr (.inl ((fun _ => 0)))))]) hP hD hK [10] [0, 1, 2, 3, 4, 5, 6, 7, 8, 9] rfl rfl (by decide) (by decide) hk1 hFc ht hvm hB
  have hP : va_P D vwCl [(q_2, .inr (3, [.int 0, .ref em, .int 0])), (q_4, .inr (5, [.ref q_5, .int 0])), (q_5, .inl (cA_6, 256, .inl ((fun _ => 0)))), (q_8, .inr (3, [.int 0, .ref em, .int 0])), (q_10, .inl (cA_13, 2, .inr (.inr (.inr (.inr ((tw_two q_11 q_12))))))), (q_11, .inl (cA_14, 24, .inr (.inr (.inr (.inr ((fun _ => none))))))), (q_12, .inl (cA_14, 24, .inr (.inr (.inr (.inr ((fun _ => none))))))), (q_15, .inr (3, [.int 0, .ref em, .int 0])), (q_18, .inl (cA_19, 1, .inr (.inr (.inr (.inl ((fun _ => 0))))))), (q_16, .inl (cA_17, 1, .inr (.inl ((fun _ => 0))))), (q_7, .inr (10, [.int 1, .int 9, .int 0, .int 99, .ref q_8, .ref q_9, .ref q_10, .int 0, .int 0, .int ((-1)), .ref q_15, .long 0]))] _ := hP
  have hD : va_D A [(q_2, .inr (3, [.int 0, .ref em, .int 0])), (q_4, .inr (5, [.ref q_5, .int 0])), (q_5, .inl (cA_6, 256, .inl ((fun _ => 0)))), (q_8, .inr (3, [.int 0, .ref em, .int 0])), (q_10, .inl (cA_13, 2, .inr (.inr (.inr (.inr ((tw_two q_11 q_12))))))), (q_11, .inl (cA_14, 24, .inr (.inr (.inr (.inr ((fun _ => none))))))), (q_12, .inl (cA_14, 24, .inr (.inr (.inr (.inr ((fun _ => none))))))), (q_15, .inr (3, [.int 0, .ref em, .int 0])), (q_18, .inl (cA_19, 1, .inr (.inr (.inr (.inl ((fun _ => 0))))))), (q_16, .inl (cA_17, 1, .inr (.inl ((fun _ => 0))))), (q_7, .inr (10, [.int 1, .int 9, .int 0, .int 99, .ref q_8, .ref q_9, .ref q_10, .int 0, .int 0, .int ((-1)), .ref q_15, .long 0]))] := hD
  have hK : va_K D vwCl [(cA_6, .int), (cA_13, .array (.object "TowerliftryModel$Car")), (cA_14, .object "TowerliftryModel$Car"), (cA_17, .long), (cA_19, .double)] s := hK
  refine W.widen (k := 15) (n := 355) (Nat.le_refl _) (Nat.le_refl _) ?_
  refine W.eq (g2 := F0 m 770 ls [.int 1]) rfl ?_
  refine lv_iload hx hb dL_law_770 (lv_at hl 1 rfl) ?_
  refine lv_icmp_eq (tgt := 777) hx hb dL_law_772 (by decide) (fun c9 => ?_) (fun c9 => absurd c9 (by decide))
  refine lv_iload hx hb dL_law_777 (lv_at hl 1 rfl) ?_
  refine lv_if_ne (tgt := 794) hx hb dL_law_779 (by decide) (fun c9 => ?_) (fun c9 => absurd c9 (by decide))
  refine lv_goto (tgt := 2056) hx hb dL_law_794 (by decide) ?_
  refine W.widen (k := 20000) (n := 60000) (Nat.le_of_ble_eq_true rfl) (Nat.le_of_ble_eq_true rfl) ?_
  exact tw_tail C0 hAe hS (lv_sub hl [2, 7] rfl)
set_option maxHeartbeats 4000000 in
set_option maxRecDepth 100000 in
theorem tw_case_9 {p : Program} {l : Launch} {e : Env} {s : State} {m : MethodId} {below : List Frame} {meth : Method} {c : Code} {b : Nat} {xs : Nat → Int32} (C0 : lw_At p s m meth c b 6 xs) (hst : l.stackTraces = false) {A : Nat → Prop} (hAe : A = fun q : Nat => s.heap.size ≤ q) (em kw kb : Nat) (D : va_G) (hF : tw_F em kw kb A s) (q_1 : Nat) (q_2 : Nat) (q_3 : Nat) (q_4 : Nat) (q_5 : Nat) (cA_6 : ClassId) (q_7 : Nat) (q_8 : Nat) (q_9 : Nat) (q_10 : Nat) (q_11 : Nat) (q_12 : Nat) (cA_13 : ClassId) (cA_14 : ClassId) (q_15 : Nat) (q_16 : Nat) (cA_17 : ClassId) (q_18 : Nat) (cA_19 : ClassId) (H : Heap) (locs : List Loc) (hK : va_K D vwCl [(cA_6, .int), (cA_13, .array (.object "TowerliftryModel$Car")), (cA_14, .object "TowerliftryModel$Car"), (cA_17, .long), (cA_19, .double)] s) (hP : va_P D vwCl [(q_1, .inr (7, [.ref q_2, .ref q_3, .ref q_4, .int 9, .int 99, .int 0, .int 0, .int 0, .int ((-1)), .int 0, .int 0, .long 0])), (q_2, .inr (3, [.int 0, .ref em, .int 0])), (q_3, .inr (3, [.int 0, .ref em, .int 0])), (q_4, .inr (5, [.ref q_5, .int 0])), (q_5, .inl (cA_6, 256, .inl ((fun _ => 0)))), (q_7, .inr (10, [.int 0, .int 9, .int 0, .int 99, .ref q_8, .ref q_9, .ref q_10, .int 0, .int 0, .int ((-1)), .ref q_15, .long 0])), (q_8, .inr (3, [.int 0, .ref em, .int 0])), (q_9, .inr (3, [.int 0, .ref em, .int 0])), (q_10, .inl (cA_13, 2, .inr (.inr (.inr (.inr ((tw_two q_11 q_12))))))), (q_11, .inl (cA_14, 24, .inr (.inr (.inr (.inr ((fun _ => none))))))), (q_12, .inl (cA_14, 24, .inr (.inr (.inr (.inr ((fun _ => none))))))), (q_15, .inr (3, [.int 0, .ref em, .int 0])), (q_16, .inl (cA_17, 1, .inr (.inl ((fun _ => 0))))), (q_18, .inl (cA_19, 1, .inr (.inr (.inr (.inl ((fun _ => 0)))))))] H) (hD : va_D A [(q_1, .inr (7, [.ref q_2, .ref q_3, .ref q_4, .int 9, .int 99, .int 0, .int 0, .int 0, .int ((-1)), .int 0, .int 0, .long 0])), (q_2, .inr (3, [.int 0, .ref em, .int 0])), (q_3, .inr (3, [.int 0, .ref em, .int 0])), (q_4, .inr (5, [.ref q_5, .int 0])), (q_5, .inl (cA_6, 256, .inl ((fun _ => 0)))), (q_7, .inr (10, [.int 0, .int 9, .int 0, .int 99, .ref q_8, .ref q_9, .ref q_10, .int 0, .int 0, .int ((-1)), .ref q_15, .long 0])), (q_8, .inr (3, [.int 0, .ref em, .int 0])), (q_9, .inr (3, [.int 0, .ref em, .int 0])), (q_10, .inl (cA_13, 2, .inr (.inr (.inr (.inr ((tw_two q_11 q_12))))))), (q_11, .inl (cA_14, 24, .inr (.inr (.inr (.inr ((fun _ => none))))))), (q_12, .inl (cA_14, 24, .inr (.inr (.inr (.inr ((fun _ => none))))))), (q_15, .inr (3, [.int 0, .ref em, .int 0])), (q_16, .inl (cA_17, 1, .inr (.inl ((fun _ => 0))))), (q_18, .inl (cA_19, 1, .inr (.inr (.inr (.inl ((fun _ => 0)))))))]) (hS : va_S A s.heap H locs) (ls : Array Slot) (hl : lv_has ls 9 [(5, .int 0), (4, .ref q_18), (3, .ref q_16), (2, .ref q_7), (1, .ref q_1), (0, .ref b)]) : W p l e room_1 s m #[Value.ref b] below meth c H locs 14 349 (lw_Z below #[Value.ref b] s) (F0 m 797 ls []) := by
  obtain ⟨hx, hb, hr, hml, hown, hts0, hX, hbl, hlocks, hgv⟩ := id C0
  have hown : s.vm.findClass RL = some m.cls := hown
  have hts : ∀ w ∈ wsL_law, w.before #[Value.ref b] s = true := fun w h => hts0 w (wsL_law_in w h)
  have hA : ∀ q : Nat, s.heap.size ≤ q → A q := fun q h => by rw [hAe]; exact h
  have hbA : ¬ A b := by rw [hAe]; exact Nat.not_le.mpr hbl
  refine lv_aload_n hx hb dL_law_797 rfl (lv_at hl 4 rfl) ?_
  refine lv_aload_n hx hb dL_law_798 rfl (lv_at hl 5 rfl) ?_
  refine lv_iload hx hb dL_law_799 (lv_at hl 0 rfl) ?_
  refine lv_iconst (v := 1) hx hb dL_law_801 (by decide) ?_
  refine lv_iadd hx hb dL_law_802 ?_
  refine lv_topi (fun z_1 ez_1 => ?_)
  have ez_1 : z_1 = (1 : Int32) := ez_1.trans (by decide)
  subst ez_1
  refine va_sld hx hb hX hbl hbA hS (by unfold vp_in; decide) dL_law_803 ?_
  rw [show (1 : Int32).toNatClampNeg = 1 from by decide]
  refine lv_aload_n hx hb dL_law_804 rfl (lv_at hl 2 rfl) ?_
  have hPc := hP.sub (ws' := [(q_1, .inr (7, [.ref q_2, .ref q_3, .ref q_4, .int 9, .int 99, .int 0, .int 0, .int 0, .int ((-1)), .int 0, .int 0, .long 0])), (q_2, .inr (3, [.int 0, .ref em, .int 0])), (q_16, .inl (cA_17, 1, .inr (.inl ((fun _ => 0)))))]) [0, 1, 12] rfl
  have hDc := hD.sub (ws' := [(q_1, .inr (7, [.ref q_2, .ref q_3, .ref q_4, .int 9, .int 99, .int 0, .int 0, .int 0, .int ((-1)), .int 0, .int 0, .long 0])), (q_2, .inr (3, [.int 0, .ref em, .int 0])), (q_16, .inl (cA_17, 1, .inr (.inl ((fun _ => 0)))))]) [0, 1, 12] (by decide) rfl
  have hKc := hK.sub (tys' := [(cA_17, .long)]) [3] rfl
  have hFc := va_free (wc := [(q_1, .inr (7, [.ref q_2, .ref q_3, .ref q_4, .int 9, .int 99, .int 0, .int 0, .int 0, .int ((-1)), .int 0, .int 0, .long 0])), (q_2, .inr (3, [.int 0, .ref em, .int 0])), (q_16, .inl (cA_17, 1, .inr (.inl ((fun _ => 0)))))]) hD hS hA [0, 1, 12] rfl
  refine va_calli (vx_runSW (As := [.ref q_1, .int ((xs 1)), .ref q_16]) (rest := []) ⟨hx, hb, hml, hown, hts⟩ (c_L_pass l hst em kw kb D q_1 ((xs 1)) q_16 q_2 q_3 q_4 cA_17 _) (vx_cwSW 3 hts gL_law_L_pass rfl rfl rfl (by decide +kernel) ⟨(Nat.le_of_ble_eq_true rfl), (Nat.le_of_ble_eq_true rfl)⟩) (tw_preS hF hS hFc hPc hKc hDc) rfl rfl hl.1 rfl (lv_room (Nat.le_of_ble_eq_true rfl)) dL_law_805 ⟨(Nat.le_of_ble_eq_true rfl), (Nat.le_of_ble_eq_true rfl)⟩) hS (fun q _ h => hFc q h) hFc (fun r u t H locs ht hvm hw hB hz1 hk1 hS => ?_)
  rcases hw with hw | hw
  · obtain ⟨g_2, rfl, rfl⟩ := hw
    obtain ⟨hP, hD, hK⟩ := tw_join (wr := [(q_3, .inr (3, [.int 0, .ref em, .int 0])), (q_4, .inr (5, [.ref q_5, .int 0])), (q_5, .inl (cA_6, 256, .inl ((fun _ => 0)))), (q_7, .inr (10, [.int 0, .int 9, .int 0, .int 99, .ref q_8, .ref q_9, .ref q_10, .int 0, .int 0, .int ((-1)), .ref q_15, .long 0])), (q_8, .inr (3, [.int 0, .ref em, .int 0])), (q_9, .inr (3, [.int 0, .ref em, .int 0])), (q_10, .inl (cA_13, 2, .inr (.inr (.inr (.inr ((tw_two q_11 q_12))))))), (q_11, .inl (cA_14, 24, .inr (.inr (.inr (.inr ((fun _ => none))))))), (q_12, .inl (cA_14, 24, .inr (.inr (.inr (.inr ((fun _ => none))))))), (q_15, .inr (3, [.int 0, .ref em, .int 0])), (q_18, .inl (cA_19, 1, .inr (.inr (.inr (.inl ((fun _ => 0)))))))]) hP hD hK [0, 1, 12] [2, 3, 4, 5, 6, 7, 8, 9, 10, 11, 13] rfl rfl (by decide) (by decide) hk1 hFc ht hvm hB
    have hP : va_P D vwCl [(q_3, .inr (3, [.int 0, .ref em, .int 0])), (q_4, .inr (5, [.ref q_5, .int 0])), (q_5, .inl (cA_6, 256, .inl ((fun _ => 0)))), (q_7, .inr (10, [.int 0, .int 9, .int 0, .int 99, .ref q_8, .ref q_9, .ref q_10, .int 0, .int 0, .int ((-1)), .ref q_15, .long 0])), (q_8, .inr (3, [.int 0, .ref em, .int 0])), (q_9, .inr (3, [.int 0, .ref em, .int 0])), (q_10, .inl (cA_13, 2, .inr (.inr (.inr (.inr ((tw_two q_11 q_12))))))), (q_11, .inl (cA_14, 24, .inr (.inr (.inr (.inr ((fun _ => none))))))), (q_12, .inl (cA_14, 24, .inr (.inr (.inr (.inr ((fun _ => none))))))), (q_15, .inr (3, [.int 0, .ref em, .int 0])), (q_18, .inl (cA_19, 1, .inr (.inr (.inr (.inl ((fun _ => 0))))))), (q_16, .inl (cA_17, 1, .inr (.inl ((fun _ => 0)))))] _ := hP
    have hD : va_D A [(q_3, .inr (3, [.int 0, .ref em, .int 0])), (q_4, .inr (5, [.ref q_5, .int 0])), (q_5, .inl (cA_6, 256, .inl ((fun _ => 0)))), (q_7, .inr (10, [.int 0, .int 9, .int 0, .int 99, .ref q_8, .ref q_9, .ref q_10, .int 0, .int 0, .int ((-1)), .ref q_15, .long 0])), (q_8, .inr (3, [.int 0, .ref em, .int 0])), (q_9, .inr (3, [.int 0, .ref em, .int 0])), (q_10, .inl (cA_13, 2, .inr (.inr (.inr (.inr ((tw_two q_11 q_12))))))), (q_11, .inl (cA_14, 24, .inr (.inr (.inr (.inr ((fun _ => none))))))), (q_12, .inl (cA_14, 24, .inr (.inr (.inr (.inr ((fun _ => none))))))), (q_15, .inr (3, [.int 0, .ref em, .int 0])), (q_18, .inl (cA_19, 1, .inr (.inr (.inr (.inl ((fun _ => 0))))))), (q_16, .inl (cA_17, 1, .inr (.inl ((fun _ => 0)))))] := hD
    have hK : va_K D vwCl [(cA_6, .int), (cA_13, .array (.object "TowerliftryModel$Car")), (cA_14, .object "TowerliftryModel$Car"), (cA_17, .long), (cA_19, .double)] s := hK
    refine W.widen (k := 15) (n := 355) (Nat.le_refl _) (Nat.le_refl _) ?_
    refine W.eq (g2 := F0 m 808 ls [.int 1]) rfl ?_
    refine lv_istore (lv' := [(6, .int 1), (5, .int 0), (4, .ref q_18), (3, .ref q_16), (2, .ref q_7), (1, .ref q_1), (0, .ref b)]) hx hb dL_law_808 hl (by decide) rfl (fun ls hl => ?_)
    refine lv_aload_n hx hb dL_law_810 rfl (lv_at hl 4 rfl) ?_
    refine lv_aload_n hx hb dL_law_811 rfl (lv_at hl 6 rfl) ?_
    refine lv_iload hx hb dL_law_812 (lv_at hl 1 rfl) ?_
    refine lv_iconst (v := 1) hx hb dL_law_814 (by decide) ?_
    refine lv_iadd hx hb dL_law_815 ?_
    refine lv_topi (fun z_3 ez_3 => ?_)
    have ez_3 : z_3 = (1 : Int32) := ez_3.trans (by decide)
    subst ez_3
    refine va_sld hx hb hX hbl hbA hS (by unfold vp_in; decide) dL_law_816 ?_
    rw [show (1 : Int32).toNatClampNeg = 1 from by decide]
    have hPc := hP.sub (ws' := [(q_7, .inr (10, [.int 0, .int 9, .int 0, .int 99, .ref q_8, .ref q_9, .ref q_10, .int 0, .int 0, .int ((-1)), .ref q_15, .long 0])), (q_8, .inr (3, [.int 0, .ref em, .int 0])), (q_9, .inr (3, [.int 0, .ref em, .int 0])), (q_10, .inl (cA_13, 2, .inr (.inr (.inr (.inr ((tw_two q_11 q_12))))))), (q_11, .inl (cA_14, 24, .inr (.inr (.inr (.inr ((fun _ => none))))))), (q_12, .inl (cA_14, 24, .inr (.inr (.inr (.inr ((fun _ => none)))))))]) [3, 4, 5, 6, 7, 8] rfl
    have hDc := hD.sub (ws' := [(q_7, .inr (10, [.int 0, .int 9, .int 0, .int 99, .ref q_8, .ref q_9, .ref q_10, .int 0, .int 0, .int ((-1)), .ref q_15, .long 0])), (q_8, .inr (3, [.int 0, .ref em, .int 0])), (q_9, .inr (3, [.int 0, .ref em, .int 0])), (q_10, .inl (cA_13, 2, .inr (.inr (.inr (.inr ((tw_two q_11 q_12))))))), (q_11, .inl (cA_14, 24, .inr (.inr (.inr (.inr ((fun _ => none))))))), (q_12, .inl (cA_14, 24, .inr (.inr (.inr (.inr ((fun _ => none)))))))]) [3, 4, 5, 6, 7, 8] (by decide) rfl
    have hKc := hK.sub (tys' := [(cA_13, .array (.object "TowerliftryModel$Car")), (cA_14, .object "TowerliftryModel$Car")]) [1, 2] rfl
    have hFc := va_free (wc := [(q_7, .inr (10, [.int 0, .int 9, .int 0, .int 99, .ref q_8, .ref q_9, .ref q_10, .int 0, .int 0, .int ((-1)), .ref q_15, .long 0])), (q_8, .inr (3, [.int 0, .ref em, .int 0])), (q_9, .inr (3, [.int 0, .ref em, .int 0])), (q_10, .inl (cA_13, 2, .inr (.inr (.inr (.inr ((tw_two q_11 q_12))))))), (q_11, .inl (cA_14, 24, .inr (.inr (.inr (.inr ((fun _ => none))))))), (q_12, .inl (cA_14, 24, .inr (.inr (.inr (.inr ((fun _ => none)))))))]) hD hS hA [3, 4, 5, 6, 7, 8] rfl
    refine va_calli (va_runV (As := [.int ((xs 1))]) (rest := []) ⟨hx, hb, hml, hown, hts⟩ (c_X6_pass l hst em kw kb D q_7 ((xs 1)) q_8 q_9 q_10 q_15 cA_13 q_11 cA_14 q_12 _) (cwV 1 hts gL_law_X6_pass rfl rfl rfl (by decide +kernel) ⟨(Nat.le_of_ble_eq_true rfl), (Nat.le_of_ble_eq_true rfl)⟩) (tw_preV hF hS hFc hPc hKc hDc (va_recv hKc hPc (ci := 10) (q0 := 0) rfl rfl)) rfl rfl hl.1 rfl (lv_room (Nat.le_of_ble_eq_true rfl)) dL_law_817 ⟨(Nat.le_of_ble_eq_true rfl), (Nat.le_of_ble_eq_true rfl)⟩) hS (fun q _ h => hFc q h) hFc (fun r u t H locs ht hvm hw hB hz1 hk1 hS => ?_)
    rcases hw with hw | hw
    · obtain ⟨g_4, rfl, rfl⟩ := hw
      obtain ⟨hP, hD, hK⟩ := tw_join (wr := [(q_3, .inr (3, [.int 0, .ref em, .int 0])), (q_4, .inr (5, [.ref q_5, .int 0])), (q_5, .inl (cA_6, 256, .inl ((fun _ => 0)))), (q_15, .inr (3, [.int 0, .ref em, .int 0])), (q_18, .inl (cA_19, 1, .inr (.inr (.inr (.inl ((fun _ => 0))))))), (q_16, .inl (cA_17, 1, .inr (.inl ((fun _ => 0)))))]) hP hD hK [3, 4, 5, 6, 7, 8] [0, 1, 2, 9, 10, 11] rfl rfl (by decide) (by decide) hk1 hFc ht hvm hB
      have hP : va_P D vwCl [(q_3, .inr (3, [.int 0, .ref em, .int 0])), (q_4, .inr (5, [.ref q_5, .int 0])), (q_5, .inl (cA_6, 256, .inl ((fun _ => 0)))), (q_15, .inr (3, [.int 0, .ref em, .int 0])), (q_18, .inl (cA_19, 1, .inr (.inr (.inr (.inl ((fun _ => 0))))))), (q_16, .inl (cA_17, 1, .inr (.inl ((fun _ => 0))))), (q_7, .inr (10, [.int 1, .int 9, .int 0, .int 99, .ref q_8, .ref q_9, .ref q_10, .int 0, .int 0, .int ((-1)), .ref q_15, .long 0]))] _ := hP
      have hD : va_D A [(q_3, .inr (3, [.int 0, .ref em, .int 0])), (q_4, .inr (5, [.ref q_5, .int 0])), (q_5, .inl (cA_6, 256, .inl ((fun _ => 0)))), (q_15, .inr (3, [.int 0, .ref em, .int 0])), (q_18, .inl (cA_19, 1, .inr (.inr (.inr (.inl ((fun _ => 0))))))), (q_16, .inl (cA_17, 1, .inr (.inl ((fun _ => 0))))), (q_7, .inr (10, [.int 1, .int 9, .int 0, .int 99, .ref q_8, .ref q_9, .ref q_10, .int 0, .int 0, .int ((-1)), .ref q_15, .long 0]))] := hD
      have hK : va_K D vwCl [(cA_6, .int), (cA_13, .array (.object "TowerliftryModel$Car")), (cA_14, .object "TowerliftryModel$Car"), (cA_17, .long), (cA_19, .double)] s := hK
      refine W.widen (k := 4215) (n := 17155) (Nat.le_refl _) (Nat.le_refl _) ?_
      refine W.eq (g2 := F0 m 820 ls [.int 0]) rfl ?_
      refine lv_istore (lv' := [(7, .int 0), (6, .int 1), (5, .int 0), (4, .ref q_18), (3, .ref q_16), (2, .ref q_7), (1, .ref q_1), (0, .ref b)]) hx hb dL_law_820 hl (by decide) rfl (fun ls hl => ?_)
      refine lv_aload_n hx hb dL_law_822 rfl (lv_at hl 5 rfl) ?_
      have hPc := hP.sub (ws' := [(q_7, .inr (10, [.int 1, .int 9, .int 0, .int 99, .ref q_8, .ref q_9, .ref q_10, .int 0, .int 0, .int ((-1)), .ref q_15, .long 0]))]) [6] rfl
      have hDc := hD.sub (ws' := [(q_7, .inr (10, [.int 1, .int 9, .int 0, .int 99, .ref q_8, .ref q_9, .ref q_10, .int 0, .int 0, .int ((-1)), .ref q_15, .long 0]))]) [6] (by decide) rfl
      have hKc := hK.sub (tys' := []) [] rfl
      have hFc := va_free (wc := [(q_7, .inr (10, [.int 1, .int 9, .int 0, .int 99, .ref q_8, .ref q_9, .ref q_10, .int 0, .int 0, .int ((-1)), .ref q_15, .long 0]))]) hD hS hA [6] rfl
      refine va_calli (va_runV (As := []) (rest := []) ⟨hx, hb, hml, hown, hts⟩ (c_X6_thrown l hst em kw kb D q_7 1 9 0 99 q_8 q_9 q_10 0 0 ((-1)) q_15 0 _) (cwV 0 hts gL_law_X6_thrown rfl rfl rfl (by decide +kernel) ⟨(Nat.le_of_ble_eq_true rfl), (Nat.le_of_ble_eq_true rfl)⟩) (tw_preV hF hS hFc hPc hKc hDc (va_recv hKc hPc (ci := 10) (q0 := 0) rfl rfl)) rfl rfl hl.1 rfl (lv_room (Nat.le_of_ble_eq_true rfl)) dL_law_823 ⟨(Nat.le_of_ble_eq_true rfl), (Nat.le_of_ble_eq_true rfl)⟩) hS (fun q _ h => hFc q h) hFc (fun r u t H locs ht hvm hw hB hz1 hk1 hS => ?_)
      obtain ⟨rfl, rfl⟩ := hw
      obtain ⟨hP, hD, hK⟩ := tw_join (wr := [(q_3, .inr (3, [.int 0, .ref em, .int 0])), (q_4, .inr (5, [.ref q_5, .int 0])), (q_5, .inl (cA_6, 256, .inl ((fun _ => 0)))), (q_15, .inr (3, [.int 0, .ref em, .int 0])), (q_18, .inl (cA_19, 1, .inr (.inr (.inr (.inl ((fun _ => 0))))))), (q_16, .inl (cA_17, 1, .inr (.inl ((fun _ => 0)))))]) hP hD hK [6] [0, 1, 2, 3, 4, 5] rfl rfl (by decide) (by decide) hk1 hFc ht hvm hB
      have hP : va_P D vwCl [(q_3, .inr (3, [.int 0, .ref em, .int 0])), (q_4, .inr (5, [.ref q_5, .int 0])), (q_5, .inl (cA_6, 256, .inl ((fun _ => 0)))), (q_15, .inr (3, [.int 0, .ref em, .int 0])), (q_18, .inl (cA_19, 1, .inr (.inr (.inr (.inl ((fun _ => 0))))))), (q_16, .inl (cA_17, 1, .inr (.inl ((fun _ => 0))))), (q_7, .inr (10, [.int 1, .int 9, .int 0, .int 99, .ref q_8, .ref q_9, .ref q_10, .int 0, .int 0, .int ((-1)), .ref q_15, .long 0]))] _ := hP
      have hD : va_D A [(q_3, .inr (3, [.int 0, .ref em, .int 0])), (q_4, .inr (5, [.ref q_5, .int 0])), (q_5, .inl (cA_6, 256, .inl ((fun _ => 0)))), (q_15, .inr (3, [.int 0, .ref em, .int 0])), (q_18, .inl (cA_19, 1, .inr (.inr (.inr (.inl ((fun _ => 0))))))), (q_16, .inl (cA_17, 1, .inr (.inl ((fun _ => 0))))), (q_7, .inr (10, [.int 1, .int 9, .int 0, .int 99, .ref q_8, .ref q_9, .ref q_10, .int 0, .int 0, .int ((-1)), .ref q_15, .long 0]))] := hD
      have hK : va_K D vwCl [(cA_6, .int), (cA_13, .array (.object "TowerliftryModel$Car")), (cA_14, .object "TowerliftryModel$Car"), (cA_17, .long), (cA_19, .double)] s := hK
      refine W.widen (k := 4215) (n := 17155) (Nat.le_refl _) (Nat.le_refl _) ?_
      refine W.eq (g2 := F0 m 826 ls [.int 1]) rfl ?_
      refine lv_iload hx hb dL_law_826 (lv_at hl 1 rfl) ?_
      refine lv_icmp_eq (tgt := 833) hx hb dL_law_828 (by decide) (fun c9 => ?_) (fun c9 => absurd c9 (by decide))
      refine lv_iload hx hb dL_law_833 (lv_at hl 1 rfl) ?_
      refine lv_if_ne (tgt := 850) hx hb dL_law_835 (by decide) (fun c9 => ?_) (fun c9 => absurd c9 (by decide))
      refine lv_goto (tgt := 2056) hx hb dL_law_850 (by decide) ?_
      refine W.widen (k := 20000) (n := 60000) (Nat.le_of_ble_eq_true rfl) (Nat.le_of_ble_eq_true rfl) ?_
      exact tw_tail C0 hAe hS (lv_sub hl [2, 7] rfl)
    · obtain ⟨g_5, rfl, rfl⟩ := hw
      obtain ⟨hP, hD, hK⟩ := tw_join (wr := [(q_3, .inr (3, [.int 0, .ref em, .int 0])), (q_4, .inr (5, [.ref q_5, .int 0])), (q_5, .inl (cA_6, 256, .inl ((fun _ => 0)))), (q_15, .inr (3, [.int 0, .ref em, .int 0])), (q_18, .inl (cA_19, 1, .inr (.inr (.inr (.inl ((fun _ => 0))))))), (q_16, .inl (cA_17, 1, .inr (.inl ((fun _ => 0)))))]) hP hD hK [3, 4, 5, 6, 7, 8] [0, 1, 2, 9, 10, 11] rfl rfl (by decide) (by decide) hk1 hFc ht hvm hB
      have hP : va_P D vwCl [(q_3, .inr (3, [.int 0, .ref em, .int 0])), (q_4, .inr (5, [.ref q_5, .int 0])), (q_5, .inl (cA_6, 256, .inl ((fun _ => 0)))), (q_15, .inr (3, [.int 0, .ref em, .int 0])), (q_18, .inl (cA_19, 1, .inr (.inr (.inr (.inl ((fun _ => 0))))))), (q_16, .inl (cA_17, 1, .inr (.inl ((fun _ => 0))))), (q_7, .inr (10, [.int 0, .int 9, .int (((xs 1))), .int 99, .ref q_8, .ref q_9, .ref q_10, .int 0, .int 0, .int ((-1)), .ref q_15, .long 0]))] _ := hP
      have hD : va_D A [(q_3, .inr (3, [.int 0, .ref em, .int 0])), (q_4, .inr (5, [.ref q_5, .int 0])), (q_5, .inl (cA_6, 256, .inl ((fun _ => 0)))), (q_15, .inr (3, [.int 0, .ref em, .int 0])), (q_18, .inl (cA_19, 1, .inr (.inr (.inr (.inl ((fun _ => 0))))))), (q_16, .inl (cA_17, 1, .inr (.inl ((fun _ => 0))))), (q_7, .inr (10, [.int 0, .int 9, .int (((xs 1))), .int 99, .ref q_8, .ref q_9, .ref q_10, .int 0, .int 0, .int ((-1)), .ref q_15, .long 0]))] := hD
      have hK : va_K D vwCl [(cA_6, .int), (cA_13, .array (.object "TowerliftryModel$Car")), (cA_14, .object "TowerliftryModel$Car"), (cA_17, .long), (cA_19, .double)] s := hK
      refine W.widen (k := 4215) (n := 17155) (Nat.le_refl _) (Nat.le_refl _) ?_
      refine W.eq (g2 := F0 m 820 ls [.int (((xs 1)))]) rfl ?_
      refine lv_istore (lv' := [(7, .int (((xs 1)))), (6, .int 1), (5, .int 0), (4, .ref q_18), (3, .ref q_16), (2, .ref q_7), (1, .ref q_1), (0, .ref b)]) hx hb dL_law_820 hl (by decide) rfl (fun ls hl => ?_)
      refine lv_aload_n hx hb dL_law_822 rfl (lv_at hl 5 rfl) ?_
      have hPc := hP.sub (ws' := [(q_7, .inr (10, [.int 0, .int 9, .int (((xs 1))), .int 99, .ref q_8, .ref q_9, .ref q_10, .int 0, .int 0, .int ((-1)), .ref q_15, .long 0]))]) [6] rfl
      have hDc := hD.sub (ws' := [(q_7, .inr (10, [.int 0, .int 9, .int (((xs 1))), .int 99, .ref q_8, .ref q_9, .ref q_10, .int 0, .int 0, .int ((-1)), .ref q_15, .long 0]))]) [6] (by decide) rfl
      have hKc := hK.sub (tys' := []) [] rfl
      have hFc := va_free (wc := [(q_7, .inr (10, [.int 0, .int 9, .int (((xs 1))), .int 99, .ref q_8, .ref q_9, .ref q_10, .int 0, .int 0, .int ((-1)), .ref q_15, .long 0]))]) hD hS hA [6] rfl
      refine va_calli (va_runV (As := []) (rest := []) ⟨hx, hb, hml, hown, hts⟩ (c_X6_thrown l hst em kw kb D q_7 0 9 (((xs 1))) 99 q_8 q_9 q_10 0 0 ((-1)) q_15 0 _) (cwV 0 hts gL_law_X6_thrown rfl rfl rfl (by decide +kernel) ⟨(Nat.le_of_ble_eq_true rfl), (Nat.le_of_ble_eq_true rfl)⟩) (tw_preV hF hS hFc hPc hKc hDc (va_recv hKc hPc (ci := 10) (q0 := 0) rfl rfl)) rfl rfl hl.1 rfl (lv_room (Nat.le_of_ble_eq_true rfl)) dL_law_823 ⟨(Nat.le_of_ble_eq_true rfl), (Nat.le_of_ble_eq_true rfl)⟩) hS (fun q _ h => hFc q h) hFc (fun r u t H locs ht hvm hw hB hz1 hk1 hS => ?_)
      obtain ⟨rfl, rfl⟩ := hw
      obtain ⟨hP, hD, hK⟩ := tw_join (wr := [(q_3, .inr (3, [.int 0, .ref em, .int 0])), (q_4, .inr (5, [.ref q_5, .int 0])), (q_5, .inl (cA_6, 256, .inl ((fun _ => 0)))), (q_15, .inr (3, [.int 0, .ref em, .int 0])), (q_18, .inl (cA_19, 1, .inr (.inr (.inr (.inl ((fun _ => 0))))))), (q_16, .inl (cA_17, 1, .inr (.inl ((fun _ => 0)))))]) hP hD hK [6] [0, 1, 2, 3, 4, 5] rfl rfl (by decide) (by decide) hk1 hFc ht hvm hB
      have hP : va_P D vwCl [(q_3, .inr (3, [.int 0, .ref em, .int 0])), (q_4, .inr (5, [.ref q_5, .int 0])), (q_5, .inl (cA_6, 256, .inl ((fun _ => 0)))), (q_15, .inr (3, [.int 0, .ref em, .int 0])), (q_18, .inl (cA_19, 1, .inr (.inr (.inr (.inl ((fun _ => 0))))))), (q_16, .inl (cA_17, 1, .inr (.inl ((fun _ => 0))))), (q_7, .inr (10, [.int 0, .int 9, .int ((((xs 1)))), .int 99, .ref q_8, .ref q_9, .ref q_10, .int 0, .int 0, .int ((-1)), .ref q_15, .long 0]))] _ := hP
      have hD : va_D A [(q_3, .inr (3, [.int 0, .ref em, .int 0])), (q_4, .inr (5, [.ref q_5, .int 0])), (q_5, .inl (cA_6, 256, .inl ((fun _ => 0)))), (q_15, .inr (3, [.int 0, .ref em, .int 0])), (q_18, .inl (cA_19, 1, .inr (.inr (.inr (.inl ((fun _ => 0))))))), (q_16, .inl (cA_17, 1, .inr (.inl ((fun _ => 0))))), (q_7, .inr (10, [.int 0, .int 9, .int ((((xs 1)))), .int 99, .ref q_8, .ref q_9, .ref q_10, .int 0, .int 0, .int ((-1)), .ref q_15, .long 0]))] := hD
      have hK : va_K D vwCl [(cA_6, .int), (cA_13, .array (.object "TowerliftryModel$Car")), (cA_14, .object "TowerliftryModel$Car"), (cA_17, .long), (cA_19, .double)] s := hK
      refine W.widen (k := 4215) (n := 17155) (Nat.le_refl _) (Nat.le_refl _) ?_
      refine W.eq (g2 := F0 m 826 ls [.int 0]) rfl ?_
      refine lv_iload hx hb dL_law_826 (lv_at hl 1 rfl) ?_
      exfalso
      simp only [Int32.lt_iff_toInt_lt, Int32.le_iff_toInt_le, tw_eqi, tw_i0, tw_i1, tw_i2, tw_i3, tw_i4, tw_i9, tw_i10, tw_i23, tw_i97, tw_i99, tw_i100, tw_i101, tw_i105, tw_i114, tw_i115, tw_i119, tw_i122, tw_i200, tw_i255, tw_i999, tw_i2000] at g_2 g_5 <;> omega
  · obtain ⟨g_6, rfl, rfl⟩ := hw
    obtain ⟨hP, hD, hK⟩ := tw_join (wr := [(q_3, .inr (3, [.int 0, .ref em, .int 0])), (q_4, .inr (5, [.ref q_5, .int 0])), (q_5, .inl (cA_6, 256, .inl ((fun _ => 0)))), (q_7, .inr (10, [.int 0, .int 9, .int 0, .int 99, .ref q_8, .ref q_9, .ref q_10, .int 0, .int 0, .int ((-1)), .ref q_15, .long 0])), (q_8, .inr (3, [.int 0, .ref em, .int 0])), (q_9, .inr (3, [.int 0, .ref em, .int 0])), (q_10, .inl (cA_13, 2, .inr (.inr (.inr (.inr ((tw_two q_11 q_12))))))), (q_11, .inl (cA_14, 24, .inr (.inr (.inr (.inr ((fun _ => none))))))), (q_12, .inl (cA_14, 24, .inr (.inr (.inr (.inr ((fun _ => none))))))), (q_15, .inr (3, [.int 0, .ref em, .int 0])), (q_18, .inl (cA_19, 1, .inr (.inr (.inr (.inl ((fun _ => 0)))))))]) hP hD hK [0, 1, 12] [2, 3, 4, 5, 6, 7, 8, 9, 10, 11, 13] rfl rfl (by decide) (by decide) hk1 hFc ht hvm hB
    have hP : va_P D vwCl [(q_3, .inr (3, [.int 0, .ref em, .int 0])), (q_4, .inr (5, [.ref q_5, .int 0])), (q_5, .inl (cA_6, 256, .inl ((fun _ => 0)))), (q_7, .inr (10, [.int 0, .int 9, .int 0, .int 99, .ref q_8, .ref q_9, .ref q_10, .int 0, .int 0, .int ((-1)), .ref q_15, .long 0])), (q_8, .inr (3, [.int 0, .ref em, .int 0])), (q_9, .inr (3, [.int 0, .ref em, .int 0])), (q_10, .inl (cA_13, 2, .inr (.inr (.inr (.inr ((tw_two q_11 q_12))))))), (q_11, .inl (cA_14, 24, .inr (.inr (.inr (.inr ((fun _ => none))))))), (q_12, .inl (cA_14, 24, .inr (.inr (.inr (.inr ((fun _ => none))))))), (q_15, .inr (3, [.int 0, .ref em, .int 0])), (q_18, .inl (cA_19, 1, .inr (.inr (.inr (.inl ((fun _ => 0))))))), (q_16, .inl (cA_17, 1, .inr (.inl (vp_updL ((fun _ => 0)) (0 : Int32).toNatClampNeg ((xs 1)).toInt64))))] _ := hP
    have hD : va_D A [(q_3, .inr (3, [.int 0, .ref em, .int 0])), (q_4, .inr (5, [.ref q_5, .int 0])), (q_5, .inl (cA_6, 256, .inl ((fun _ => 0)))), (q_7, .inr (10, [.int 0, .int 9, .int 0, .int 99, .ref q_8, .ref q_9, .ref q_10, .int 0, .int 0, .int ((-1)), .ref q_15, .long 0])), (q_8, .inr (3, [.int 0, .ref em, .int 0])), (q_9, .inr (3, [.int 0, .ref em, .int 0])), (q_10, .inl (cA_13, 2, .inr (.inr (.inr (.inr ((tw_two q_11 q_12))))))), (q_11, .inl (cA_14, 24, .inr (.inr (.inr (.inr ((fun _ => none))))))), (q_12, .inl (cA_14, 24, .inr (.inr (.inr (.inr ((fun _ => none))))))), (q_15, .inr (3, [.int 0, .ref em, .int 0])), (q_18, .inl (cA_19, 1, .inr (.inr (.inr (.inl ((fun _ => 0))))))), (q_16, .inl (cA_17, 1, .inr (.inl (vp_updL ((fun _ => 0)) (0 : Int32).toNatClampNeg ((xs 1)).toInt64))))] := hD
    have hK : va_K D vwCl [(cA_6, .int), (cA_13, .array (.object "TowerliftryModel$Car")), (cA_14, .object "TowerliftryModel$Car"), (cA_17, .long), (cA_19, .double)] s := hK
    refine W.widen (k := 15) (n := 355) (Nat.le_refl _) (Nat.le_refl _) ?_
    refine W.eq (g2 := F0 m 808 ls [.int 0]) rfl ?_
    refine lv_istore (lv' := [(6, .int 0), (5, .int 0), (4, .ref q_18), (3, .ref q_16), (2, .ref q_7), (1, .ref q_1), (0, .ref b)]) hx hb dL_law_808 hl (by decide) rfl (fun ls hl => ?_)
    refine lv_aload_n hx hb dL_law_810 rfl (lv_at hl 4 rfl) ?_
    refine lv_aload_n hx hb dL_law_811 rfl (lv_at hl 6 rfl) ?_
    refine lv_iload hx hb dL_law_812 (lv_at hl 1 rfl) ?_
    refine lv_iconst (v := 1) hx hb dL_law_814 (by decide) ?_
    refine lv_iadd hx hb dL_law_815 ?_
    refine lv_topi (fun z_7 ez_7 => ?_)
    have ez_7 : z_7 = (1 : Int32) := ez_7.trans (by decide)
    subst ez_7
    refine va_sld hx hb hX hbl hbA hS (by unfold vp_in; decide) dL_law_816 ?_
    rw [show (1 : Int32).toNatClampNeg = 1 from by decide]
    have hPc := hP.sub (ws' := [(q_7, .inr (10, [.int 0, .int 9, .int 0, .int 99, .ref q_8, .ref q_9, .ref q_10, .int 0, .int 0, .int ((-1)), .ref q_15, .long 0])), (q_8, .inr (3, [.int 0, .ref em, .int 0])), (q_9, .inr (3, [.int 0, .ref em, .int 0])), (q_10, .inl (cA_13, 2, .inr (.inr (.inr (.inr ((tw_two q_11 q_12))))))), (q_11, .inl (cA_14, 24, .inr (.inr (.inr (.inr ((fun _ => none))))))), (q_12, .inl (cA_14, 24, .inr (.inr (.inr (.inr ((fun _ => none)))))))]) [3, 4, 5, 6, 7, 8] rfl
    have hDc := hD.sub (ws' := [(q_7, .inr (10, [.int 0, .int 9, .int 0, .int 99, .ref q_8, .ref q_9, .ref q_10, .int 0, .int 0, .int ((-1)), .ref q_15, .long 0])), (q_8, .inr (3, [.int 0, .ref em, .int 0])), (q_9, .inr (3, [.int 0, .ref em, .int 0])), (q_10, .inl (cA_13, 2, .inr (.inr (.inr (.inr ((tw_two q_11 q_12))))))), (q_11, .inl (cA_14, 24, .inr (.inr (.inr (.inr ((fun _ => none))))))), (q_12, .inl (cA_14, 24, .inr (.inr (.inr (.inr ((fun _ => none)))))))]) [3, 4, 5, 6, 7, 8] (by decide) rfl
    have hKc := hK.sub (tys' := [(cA_13, .array (.object "TowerliftryModel$Car")), (cA_14, .object "TowerliftryModel$Car")]) [1, 2] rfl
    have hFc := va_free (wc := [(q_7, .inr (10, [.int 0, .int 9, .int 0, .int 99, .ref q_8, .ref q_9, .ref q_10, .int 0, .int 0, .int ((-1)), .ref q_15, .long 0])), (q_8, .inr (3, [.int 0, .ref em, .int 0])), (q_9, .inr (3, [.int 0, .ref em, .int 0])), (q_10, .inl (cA_13, 2, .inr (.inr (.inr (.inr ((tw_two q_11 q_12))))))), (q_11, .inl (cA_14, 24, .inr (.inr (.inr (.inr ((fun _ => none))))))), (q_12, .inl (cA_14, 24, .inr (.inr (.inr (.inr ((fun _ => none)))))))]) hD hS hA [3, 4, 5, 6, 7, 8] rfl
    refine va_calli (va_runV (As := [.int ((xs 1))]) (rest := []) ⟨hx, hb, hml, hown, hts⟩ (c_X6_pass l hst em kw kb D q_7 ((xs 1)) q_8 q_9 q_10 q_15 cA_13 q_11 cA_14 q_12 _) (cwV 1 hts gL_law_X6_pass rfl rfl rfl (by decide +kernel) ⟨(Nat.le_of_ble_eq_true rfl), (Nat.le_of_ble_eq_true rfl)⟩) (tw_preV hF hS hFc hPc hKc hDc (va_recv hKc hPc (ci := 10) (q0 := 0) rfl rfl)) rfl rfl hl.1 rfl (lv_room (Nat.le_of_ble_eq_true rfl)) dL_law_817 ⟨(Nat.le_of_ble_eq_true rfl), (Nat.le_of_ble_eq_true rfl)⟩) hS (fun q _ h => hFc q h) hFc (fun r u t H locs ht hvm hw hB hz1 hk1 hS => ?_)
    rcases hw with hw | hw
    · obtain ⟨g_8, rfl, rfl⟩ := hw
      obtain ⟨hP, hD, hK⟩ := tw_join (wr := [(q_3, .inr (3, [.int 0, .ref em, .int 0])), (q_4, .inr (5, [.ref q_5, .int 0])), (q_5, .inl (cA_6, 256, .inl ((fun _ => 0)))), (q_15, .inr (3, [.int 0, .ref em, .int 0])), (q_18, .inl (cA_19, 1, .inr (.inr (.inr (.inl ((fun _ => 0))))))), (q_16, .inl (cA_17, 1, .inr (.inl (vp_updL ((fun _ => 0)) (0 : Int32).toNatClampNeg ((xs 1)).toInt64))))]) hP hD hK [3, 4, 5, 6, 7, 8] [0, 1, 2, 9, 10, 11] rfl rfl (by decide) (by decide) hk1 hFc ht hvm hB
      have hP : va_P D vwCl [(q_3, .inr (3, [.int 0, .ref em, .int 0])), (q_4, .inr (5, [.ref q_5, .int 0])), (q_5, .inl (cA_6, 256, .inl ((fun _ => 0)))), (q_15, .inr (3, [.int 0, .ref em, .int 0])), (q_18, .inl (cA_19, 1, .inr (.inr (.inr (.inl ((fun _ => 0))))))), (q_16, .inl (cA_17, 1, .inr (.inl (vp_updL ((fun _ => 0)) (0 : Int32).toNatClampNeg ((xs 1)).toInt64)))), (q_7, .inr (10, [.int 1, .int 9, .int 0, .int 99, .ref q_8, .ref q_9, .ref q_10, .int 0, .int 0, .int ((-1)), .ref q_15, .long 0]))] _ := hP
      have hD : va_D A [(q_3, .inr (3, [.int 0, .ref em, .int 0])), (q_4, .inr (5, [.ref q_5, .int 0])), (q_5, .inl (cA_6, 256, .inl ((fun _ => 0)))), (q_15, .inr (3, [.int 0, .ref em, .int 0])), (q_18, .inl (cA_19, 1, .inr (.inr (.inr (.inl ((fun _ => 0))))))), (q_16, .inl (cA_17, 1, .inr (.inl (vp_updL ((fun _ => 0)) (0 : Int32).toNatClampNeg ((xs 1)).toInt64)))), (q_7, .inr (10, [.int 1, .int 9, .int 0, .int 99, .ref q_8, .ref q_9, .ref q_10, .int 0, .int 0, .int ((-1)), .ref q_15, .long 0]))] := hD
      have hK : va_K D vwCl [(cA_6, .int), (cA_13, .array (.object "TowerliftryModel$Car")), (cA_14, .object "TowerliftryModel$Car"), (cA_17, .long), (cA_19, .double)] s := hK
      refine W.widen (k := 4215) (n := 17155) (Nat.le_refl _) (Nat.le_refl _) ?_
      refine W.eq (g2 := F0 m 820 ls [.int 0]) rfl ?_
      refine lv_istore (lv' := [(7, .int 0), (6, .int 0), (5, .int 0), (4, .ref q_18), (3, .ref q_16), (2, .ref q_7), (1, .ref q_1), (0, .ref b)]) hx hb dL_law_820 hl (by decide) rfl (fun ls hl => ?_)
      refine lv_aload_n hx hb dL_law_822 rfl (lv_at hl 5 rfl) ?_
      have hPc := hP.sub (ws' := [(q_7, .inr (10, [.int 1, .int 9, .int 0, .int 99, .ref q_8, .ref q_9, .ref q_10, .int 0, .int 0, .int ((-1)), .ref q_15, .long 0]))]) [6] rfl
      have hDc := hD.sub (ws' := [(q_7, .inr (10, [.int 1, .int 9, .int 0, .int 99, .ref q_8, .ref q_9, .ref q_10, .int 0, .int 0, .int ((-1)), .ref q_15, .long 0]))]) [6] (by decide) rfl
      have hKc := hK.sub (tys' := []) [] rfl
      have hFc := va_free (wc := [(q_7, .inr (10, [.int 1, .int 9, .int 0, .int 99, .ref q_8, .ref q_9, .ref q_10, .int 0, .int 0, .int ((-1)), .ref q_15, .long 0]))]) hD hS hA [6] rfl
      refine va_calli (va_runV (As := []) (rest := []) ⟨hx, hb, hml, hown, hts⟩ (c_X6_thrown l hst em kw kb D q_7 1 9 0 99 q_8 q_9 q_10 0 0 ((-1)) q_15 0 _) (cwV 0 hts gL_law_X6_thrown rfl rfl rfl (by decide +kernel) ⟨(Nat.le_of_ble_eq_true rfl), (Nat.le_of_ble_eq_true rfl)⟩) (tw_preV hF hS hFc hPc hKc hDc (va_recv hKc hPc (ci := 10) (q0 := 0) rfl rfl)) rfl rfl hl.1 rfl (lv_room (Nat.le_of_ble_eq_true rfl)) dL_law_823 ⟨(Nat.le_of_ble_eq_true rfl), (Nat.le_of_ble_eq_true rfl)⟩) hS (fun q _ h => hFc q h) hFc (fun r u t H locs ht hvm hw hB hz1 hk1 hS => ?_)
      obtain ⟨rfl, rfl⟩ := hw
      obtain ⟨hP, hD, hK⟩ := tw_join (wr := [(q_3, .inr (3, [.int 0, .ref em, .int 0])), (q_4, .inr (5, [.ref q_5, .int 0])), (q_5, .inl (cA_6, 256, .inl ((fun _ => 0)))), (q_15, .inr (3, [.int 0, .ref em, .int 0])), (q_18, .inl (cA_19, 1, .inr (.inr (.inr (.inl ((fun _ => 0))))))), (q_16, .inl (cA_17, 1, .inr (.inl (vp_updL ((fun _ => 0)) (0 : Int32).toNatClampNeg ((xs 1)).toInt64))))]) hP hD hK [6] [0, 1, 2, 3, 4, 5] rfl rfl (by decide) (by decide) hk1 hFc ht hvm hB
      have hP : va_P D vwCl [(q_3, .inr (3, [.int 0, .ref em, .int 0])), (q_4, .inr (5, [.ref q_5, .int 0])), (q_5, .inl (cA_6, 256, .inl ((fun _ => 0)))), (q_15, .inr (3, [.int 0, .ref em, .int 0])), (q_18, .inl (cA_19, 1, .inr (.inr (.inr (.inl ((fun _ => 0))))))), (q_16, .inl (cA_17, 1, .inr (.inl (vp_updL ((fun _ => 0)) (0 : Int32).toNatClampNeg ((xs 1)).toInt64)))), (q_7, .inr (10, [.int 1, .int 9, .int 0, .int 99, .ref q_8, .ref q_9, .ref q_10, .int 0, .int 0, .int ((-1)), .ref q_15, .long 0]))] _ := hP
      have hD : va_D A [(q_3, .inr (3, [.int 0, .ref em, .int 0])), (q_4, .inr (5, [.ref q_5, .int 0])), (q_5, .inl (cA_6, 256, .inl ((fun _ => 0)))), (q_15, .inr (3, [.int 0, .ref em, .int 0])), (q_18, .inl (cA_19, 1, .inr (.inr (.inr (.inl ((fun _ => 0))))))), (q_16, .inl (cA_17, 1, .inr (.inl (vp_updL ((fun _ => 0)) (0 : Int32).toNatClampNeg ((xs 1)).toInt64)))), (q_7, .inr (10, [.int 1, .int 9, .int 0, .int 99, .ref q_8, .ref q_9, .ref q_10, .int 0, .int 0, .int ((-1)), .ref q_15, .long 0]))] := hD
      have hK : va_K D vwCl [(cA_6, .int), (cA_13, .array (.object "TowerliftryModel$Car")), (cA_14, .object "TowerliftryModel$Car"), (cA_17, .long), (cA_19, .double)] s := hK
      refine W.widen (k := 4215) (n := 17155) (Nat.le_refl _) (Nat.le_refl _) ?_
      refine W.eq (g2 := F0 m 826 ls [.int 1]) rfl ?_
      refine lv_iload hx hb dL_law_826 (lv_at hl 1 rfl) ?_
      exfalso
      simp only [Int32.lt_iff_toInt_lt, Int32.le_iff_toInt_le, tw_eqi, tw_i0, tw_i1, tw_i2, tw_i3, tw_i4, tw_i9, tw_i10, tw_i23, tw_i97, tw_i99, tw_i100, tw_i101, tw_i105, tw_i114, tw_i115, tw_i119, tw_i122, tw_i200, tw_i255, tw_i999, tw_i2000] at g_6 g_8 <;> omega
    · obtain ⟨g_9, rfl, rfl⟩ := hw
      obtain ⟨hP, hD, hK⟩ := tw_join (wr := [(q_3, .inr (3, [.int 0, .ref em, .int 0])), (q_4, .inr (5, [.ref q_5, .int 0])), (q_5, .inl (cA_6, 256, .inl ((fun _ => 0)))), (q_15, .inr (3, [.int 0, .ref em, .int 0])), (q_18, .inl (cA_19, 1, .inr (.inr (.inr (.inl ((fun _ => 0))))))), (q_16, .inl (cA_17, 1, .inr (.inl (vp_updL ((fun _ => 0)) (0 : Int32).toNatClampNeg ((xs 1)).toInt64))))]) hP hD hK [3, 4, 5, 6, 7, 8] [0, 1, 2, 9, 10, 11] rfl rfl (by decide) (by decide) hk1 hFc ht hvm hB
      have hP : va_P D vwCl [(q_3, .inr (3, [.int 0, .ref em, .int 0])), (q_4, .inr (5, [.ref q_5, .int 0])), (q_5, .inl (cA_6, 256, .inl ((fun _ => 0)))), (q_15, .inr (3, [.int 0, .ref em, .int 0])), (q_18, .inl (cA_19, 1, .inr (.inr (.inr (.inl ((fun _ => 0))))))), (q_16, .inl (cA_17, 1, .inr (.inl (vp_updL ((fun _ => 0)) (0 : Int32).toNatClampNeg ((xs 1)).toInt64)))), (q_7, .inr (10, [.int 0, .int 9, .int (((xs 1))), .int 99, .ref q_8, .ref q_9, .ref q_10, .int 0, .int 0, .int ((-1)), .ref q_15, .long 0]))] _ := hP
      have hD : va_D A [(q_3, .inr (3, [.int 0, .ref em, .int 0])), (q_4, .inr (5, [.ref q_5, .int 0])), (q_5, .inl (cA_6, 256, .inl ((fun _ => 0)))), (q_15, .inr (3, [.int 0, .ref em, .int 0])), (q_18, .inl (cA_19, 1, .inr (.inr (.inr (.inl ((fun _ => 0))))))), (q_16, .inl (cA_17, 1, .inr (.inl (vp_updL ((fun _ => 0)) (0 : Int32).toNatClampNeg ((xs 1)).toInt64)))), (q_7, .inr (10, [.int 0, .int 9, .int (((xs 1))), .int 99, .ref q_8, .ref q_9, .ref q_10, .int 0, .int 0, .int ((-1)), .ref q_15, .long 0]))] := hD
      have hK : va_K D vwCl [(cA_6, .int), (cA_13, .array (.object "TowerliftryModel$Car")), (cA_14, .object "TowerliftryModel$Car"), (cA_17, .long), (cA_19, .double)] s := hK
      refine W.widen (k := 4215) (n := 17155) (Nat.le_refl _) (Nat.le_refl _) ?_
      refine W.eq (g2 := F0 m 820 ls [.int (((xs 1)))]) rfl ?_
      refine lv_istore (lv' := [(7, .int (((xs 1)))), (6, .int 0), (5, .int 0), (4, .ref q_18), (3, .ref q_16), (2, .ref q_7), (1, .ref q_1), (0, .ref b)]) hx hb dL_law_820 hl (by decide) rfl (fun ls hl => ?_)
      refine lv_aload_n hx hb dL_law_822 rfl (lv_at hl 5 rfl) ?_
      have hPc := hP.sub (ws' := [(q_7, .inr (10, [.int 0, .int 9, .int (((xs 1))), .int 99, .ref q_8, .ref q_9, .ref q_10, .int 0, .int 0, .int ((-1)), .ref q_15, .long 0]))]) [6] rfl
      have hDc := hD.sub (ws' := [(q_7, .inr (10, [.int 0, .int 9, .int (((xs 1))), .int 99, .ref q_8, .ref q_9, .ref q_10, .int 0, .int 0, .int ((-1)), .ref q_15, .long 0]))]) [6] (by decide) rfl
      have hKc := hK.sub (tys' := []) [] rfl
      have hFc := va_free (wc := [(q_7, .inr (10, [.int 0, .int 9, .int (((xs 1))), .int 99, .ref q_8, .ref q_9, .ref q_10, .int 0, .int 0, .int ((-1)), .ref q_15, .long 0]))]) hD hS hA [6] rfl
      refine va_calli (va_runV (As := []) (rest := []) ⟨hx, hb, hml, hown, hts⟩ (c_X6_thrown l hst em kw kb D q_7 0 9 (((xs 1))) 99 q_8 q_9 q_10 0 0 ((-1)) q_15 0 _) (cwV 0 hts gL_law_X6_thrown rfl rfl rfl (by decide +kernel) ⟨(Nat.le_of_ble_eq_true rfl), (Nat.le_of_ble_eq_true rfl)⟩) (tw_preV hF hS hFc hPc hKc hDc (va_recv hKc hPc (ci := 10) (q0 := 0) rfl rfl)) rfl rfl hl.1 rfl (lv_room (Nat.le_of_ble_eq_true rfl)) dL_law_823 ⟨(Nat.le_of_ble_eq_true rfl), (Nat.le_of_ble_eq_true rfl)⟩) hS (fun q _ h => hFc q h) hFc (fun r u t H locs ht hvm hw hB hz1 hk1 hS => ?_)
      obtain ⟨rfl, rfl⟩ := hw
      obtain ⟨hP, hD, hK⟩ := tw_join (wr := [(q_3, .inr (3, [.int 0, .ref em, .int 0])), (q_4, .inr (5, [.ref q_5, .int 0])), (q_5, .inl (cA_6, 256, .inl ((fun _ => 0)))), (q_15, .inr (3, [.int 0, .ref em, .int 0])), (q_18, .inl (cA_19, 1, .inr (.inr (.inr (.inl ((fun _ => 0))))))), (q_16, .inl (cA_17, 1, .inr (.inl (vp_updL ((fun _ => 0)) (0 : Int32).toNatClampNeg ((xs 1)).toInt64))))]) hP hD hK [6] [0, 1, 2, 3, 4, 5] rfl rfl (by decide) (by decide) hk1 hFc ht hvm hB
      have hP : va_P D vwCl [(q_3, .inr (3, [.int 0, .ref em, .int 0])), (q_4, .inr (5, [.ref q_5, .int 0])), (q_5, .inl (cA_6, 256, .inl ((fun _ => 0)))), (q_15, .inr (3, [.int 0, .ref em, .int 0])), (q_18, .inl (cA_19, 1, .inr (.inr (.inr (.inl ((fun _ => 0))))))), (q_16, .inl (cA_17, 1, .inr (.inl (vp_updL ((fun _ => 0)) (0 : Int32).toNatClampNeg ((xs 1)).toInt64)))), (q_7, .inr (10, [.int 0, .int 9, .int ((((xs 1)))), .int 99, .ref q_8, .ref q_9, .ref q_10, .int 0, .int 0, .int ((-1)), .ref q_15, .long 0]))] _ := hP
      have hD : va_D A [(q_3, .inr (3, [.int 0, .ref em, .int 0])), (q_4, .inr (5, [.ref q_5, .int 0])), (q_5, .inl (cA_6, 256, .inl ((fun _ => 0)))), (q_15, .inr (3, [.int 0, .ref em, .int 0])), (q_18, .inl (cA_19, 1, .inr (.inr (.inr (.inl ((fun _ => 0))))))), (q_16, .inl (cA_17, 1, .inr (.inl (vp_updL ((fun _ => 0)) (0 : Int32).toNatClampNeg ((xs 1)).toInt64)))), (q_7, .inr (10, [.int 0, .int 9, .int ((((xs 1)))), .int 99, .ref q_8, .ref q_9, .ref q_10, .int 0, .int 0, .int ((-1)), .ref q_15, .long 0]))] := hD
      have hK : va_K D vwCl [(cA_6, .int), (cA_13, .array (.object "TowerliftryModel$Car")), (cA_14, .object "TowerliftryModel$Car"), (cA_17, .long), (cA_19, .double)] s := hK
      refine W.widen (k := 4215) (n := 17155) (Nat.le_refl _) (Nat.le_refl _) ?_
      refine W.eq (g2 := F0 m 826 ls [.int 0]) rfl ?_
      refine lv_iload hx hb dL_law_826 (lv_at hl 1 rfl) ?_
      refine lv_icmp_eq (tgt := 833) hx hb dL_law_828 (by decide) (fun c9 => ?_) (fun c9 => absurd c9 (by decide))
      refine lv_iload hx hb dL_law_833 (lv_at hl 1 rfl) ?_
      refine lv_if_ne (tgt := 850) hx hb dL_law_835 (by decide) (fun c9 => absurd c9 (by decide)) (fun c9 => ?_)
      refine lv_aload_n hx hb dL_law_838 rfl (lv_at hl 4 rfl) ?_
      refine lv_iconst (v := 0) hx hb dL_law_839 (by decide) ?_
      refine va_lald hx hb hK hP 5 3 rfl rfl (by unfold vp_in; decide) dL_law_840 ?_
      rw [tw_updL]
      refine lv_iload hx hb dL_law_841 (lv_at hl 0 rfl) ?_
      refine lv_i2l (v := ((((xs 1))).toInt64)) hx hb dL_law_843 rfl ?_
      refine W.lcmp hx hb dL_law_844 ?_
      rw [tw_cmp]
      refine lv_if_eq (tgt := 850) hx hb dL_law_845 (by decide) (fun c9 => ?_) (fun c9 => absurd c9 (by decide))
      refine lv_goto (tgt := 2056) hx hb dL_law_850 (by decide) ?_
      refine W.widen (k := 20000) (n := 60000) (Nat.le_of_ble_eq_true rfl) (Nat.le_of_ble_eq_true rfl) ?_
      exact tw_tail C0 hAe hS (lv_sub hl [2, 7] rfl)
