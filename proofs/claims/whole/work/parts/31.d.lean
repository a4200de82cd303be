set_option maxRecDepth 20000 in
theorem ggL_law_X8_swap : GoodIn wsLw wsX8_swap := goodIn_r _ [521, 20, 506, 507, 454, 455, 456, 457, 47, 458, 178, 522, 523, 2, 524, 1226, 1227, 1228, 1229, 1230, 1231, 1232, 1233, 1307, 1308, 1309, 1310, 1311, 1312] (by decide +kernel) (by decide +kernel)
set_option maxRecDepth 20000 in
theorem gL_law_X8_swap : GoodIn wsLw (wsV RL 65 RX8 yX8_swap wsX8_swap) := goodIn_app (goodIn_of _ (by decide +kernel)) ggL_law_X8_swap
set_option maxRecDepth 20000 in
theorem ggL_law_X9_swap : GoodIn wsLw wsX9_swap := goodIn_r _ [528, 153, 463, 464, 465, 5, 466, 118, 353, 354, 355, 467, 468, 469, 470, 471, 472, 473, 474, 1234, 1235, 1236, 1237, 1238, 1239, 1240, 1241, 1242, 1243, 1244, 1245, 1246, 1247, 1248, 1249, 1250, 1251, 1252, 1253, 1254, 1255, 1256, 1257, 1258, 1259, 1260, 1261, 1262] (by decide +kernel) (by decide +kernel)
set_option maxRecDepth 20000 in
theorem gL_law_X9_swap : GoodIn wsLw (wsV RL 68 RX9 yX9_swap wsX9_swap) := goodIn_app (goodIn_of _ (by decide +kernel)) ggL_law_X9_swap
set_option maxRecDepth 20000 in
theorem ggL_law_X8_enough : GoodIn wsLw wsX8_enough := goodIn_r _ [532, 20, 164, 479, 533, 534, 535, 47, 536, 178, 537, 538, 539, 540, 541, 542, 543, 544, 545, 546, 547, 57, 548, 2, 549, 550, 551, 552, 1226, 1227, 1228, 1229, 1230, 1231, 1232, 1233, 1307, 1308, 1309, 1310, 1311, 1312] (by decide +kernel) (by decide +kernel)
set_option maxRecDepth 20000 in
theorem gL_law_X8_enough : GoodIn wsLw (wsV RL 69 RX8 yX8_enough wsX8_enough) := goodIn_app (goodIn_of _ (by decide +kernel)) ggL_law_X8_enough
set_option maxRecDepth 20000 in
theorem ggL_law_X9_enough : GoodIn wsLw wsX9_enough := goodIn_r _ [556, 153, 118, 557, 558, 559, 5, 560, 561, 562, 563, 564, 515, 516, 517, 467, 468, 469, 470, 565, 566, 567, 568, 569, 570, 571, 572, 573, 353, 354, 355, 1234, 1235, 1236, 1237, 1238, 1239, 1240, 1241, 1242, 1243, 1244, 1245, 1246, 1247, 1248, 1249, 1250, 1251, 1252, 1253, 1254, 1255, 1256, 1257, 1258, 1259, 1260, 1261, 1262] (by decide +kernel) (by decide +kernel)
set_option maxRecDepth 20000 in
theorem gL_law_X9_enough : GoodIn wsLw (wsV RL 72 RX9 yX9_enough wsX9_enough) := goodIn_app (goodIn_of _ (by decide +kernel)) ggL_law_X9_enough
set_option maxRecDepth 20000 in
theorem ggL_law_X8_better : GoodIn wsLw wsX8_better := goodIn_r _ [577, 20, 578, 41, 455, 456, 457, 47, 458, 178, 579, 580, 581, 40, 582, 583, 584, 585, 586, 109, 587, 326, 327, 328, 588, 110, 589, 590, 591, 592, 111, 593, 185, 186, 187, 594, 595, 596, 597, 551, 2, 552, 548, 549, 550, 598, 599, 600, 601, 112, 602, 603, 604, 605, 606, 607, 608, 609, 610, 611, 113, 612, 613, 614, 615, 59, 616, 617, 534, 535, 536, 618, 619, 620, 621, 622, 623, 624, 625, 626, 627, 628, 629, 630, 631, 632, 633, 1226, 1227, 1228, 1229, 1230, 1231, 1232, 1233, 1307, 1308, 1309, 1310, 1311, 1312, 1300, 1301, 1302, 1303, 1304, 1305, 1306] (by decide +kernel) (by decide +kernel)
set_option maxRecDepth 20000 in
theorem gL_law_X8_better : GoodIn wsLw (wsV RL 73 RX8 yX8_better wsX8_better) := goodIn_app (goodIn_of _ (by decide +kernel)) ggL_law_X8_better
set_option maxRecDepth 20000 in
theorem ggL_law_X9_better : GoodIn wsLw wsX9_better := goodIn_r _ [637, 153, 638, 463, 464, 465, 5, 466, 118, 353, 354, 355, 467, 468, 469, 470, 471, 472, 473, 474, 639, 640, 641, 642, 123, 124, 557, 558, 559, 560, 561, 562, 563, 564, 515, 516, 517, 565, 566, 567, 568, 569, 570, 643, 644, 645, 646, 647, 648, 649, 650, 651, 652, 1234, 1235, 1236, 1237, 1238, 1239, 1240, 1241, 1242, 1243, 1244, 1245, 1246, 1247, 1248, 1249, 1250, 1251, 1252, 1253, 1254, 1255, 1256, 1257, 1258, 1259, 1260, 1261, 1262] (by decide +kernel) (by decide +kernel)
set_option maxRecDepth 20000 in
theorem gL_law_X9_better : GoodIn wsLw (wsV RL 77 RX9 yX9_better wsX9_better) := goodIn_app (goodIn_of _ (by decide +kernel)) ggL_law_X9_better
set_option maxRecDepth 20000 in
theorem ggL_law_X8_code : GoodIn wsLw wsX8_code := goodIn_r _ [656, 20, 164, 479, 17, 145, 533, 534, 535, 47, 536, 178, 544, 545, 546, 547, 57, 548, 2, 549, 550, 551, 552, 657, 619, 620, 621, 59, 1226, 1227, 1228, 1229, 1230, 1231, 1232, 1233, 1307, 1308, 1309, 1310, 1311, 1312, 1263, 1264, 1265, 1266, 1267] (by decide +kernel) (by decide +kernel)
set_option maxRecDepth 20000 in
theorem gL_law_X8_code : GoodIn wsLw (wsV RL 78 RX8 yX8_code wsX8_code) := goodIn_app (goodIn_of _ (by decide +kernel)) ggL_law_X8_code
set_option maxRecDepth 20000 in
theorem ggL_law_X9_code : GoodIn wsLw wsX9_code := goodIn_r _ [661, 153, 118, 467, 468, 469, 5, 470, 557, 558, 559, 560, 561, 562, 563, 564, 515, 516, 517, 565, 566, 567, 568, 569, 570, 1234, 1235, 1236, 1237, 1238, 1239, 1240, 1241, 1242, 1243, 1244, 1245, 1246, 1247, 1248, 1249, 1250, 1251, 1252, 1253, 1254, 1255, 1256, 1257, 1258, 1259, 1260, 1261, 1262] (by decide +kernel) (by decide +kernel)
set_option maxRecDepth 20000 in
theorem gL_law_X9_code : GoodIn wsLw (wsV RL 81 RX9 yX9_code wsX9_code) := goodIn_app (goodIn_of _ (by decide +kernel)) ggL_law_X9_code
set_option maxRecDepth 20000 in
theorem ggL_law_L_part : GoodIn wsLw wsLp := goodIn_ca (goodIn_r _ [665, 666, 667, 668, 669, 2, 670, 671, 672, 20, 506, 454, 507, 455, 456, 457, 47, 458, 178, 673, 674, 675, 676, 57, 677, 678, 679, 680, 58, 606, 607, 537, 538, 539, 540, 541, 542, 543, 1226, 1227, 1228, 1229, 1230, 1231, 1232, 1233, 1307, 1308, 1309, 1310, 1311, 1312] (by decide +kernel) (by decide +kernel)) (goodIn_sub (fun _ h => List.mem_append_right _ h) (by decide +kernel))
set_option maxRecDepth 20000 in
theorem gL_law_L_part : GoodIn wsLw (va_wsS RL 82 yL_part wsLp) := goodIn_app (goodIn_of _ (by decide +kernel)) ggL_law_L_part
set_option maxRecDepth 20000 in
theorem ggL_law_X9_part : GoodIn wsLw wsX9_part := goodIn_r _ [684, 153, 463, 464, 465, 5, 466, 118, 353, 354, 355, 467, 468, 469, 470, 571, 572, 573, 515, 516, 517, 1234, 1235, 1236, 1237, 1238, 1239, 1240, 1241, 1242, 1243, 1244, 1245, 1246, 1247, 1248, 1249, 1250, 1251, 1252, 1253, 1254, 1255, 1256, 1257, 1258, 1259, 1260, 1261, 1262] (by decide +kernel) (by decide +kernel)
set_option maxRecDepth 20000 in
theorem gL_law_X9_part : GoodIn wsLw (wsV RL 87 RX9 yX9_part wsX9_part) := goodIn_app (goodIn_of _ (by decide +kernel)) ggL_law_X9_part
set_option maxRecDepth 20000 in
theorem ggL_law_X9_thrown : GoodIn wsLw wsX9_thrown := goodIn_r _ [688, 153, 1234, 1235, 1236, 1237, 1238, 1239, 1240, 1241, 1242, 1243, 1244, 1245, 1246, 1247, 1248, 1249, 1250, 1251, 1252, 1253, 1254, 1255, 1256, 1257, 1258, 1259, 1260, 1261, 1262] (by decide +kernel) (by decide +kernel)
set_option maxRecDepth 20000 in
theorem gL_law_X9_thrown : GoodIn wsLw (wsV RL 88 RX9 yX9_thrown wsX9_thrown) := goodIn_app (goodIn_of _ (by decide +kernel)) ggL_law_X9_thrown
set_option maxRecDepth 20000 in
theorem ggL_law_X8_chip : GoodIn wsLw wsX8_chip := goodIn_r _ [692, 20, 612, 613, 614, 47, 615, 59, 616, 456, 457, 458, 178, 617, 534, 535, 536, 618, 619, 620, 621, 693, 694, 695, 696, 58, 57, 606, 2, 607, 1226, 1227, 1228, 1229, 1230, 1231, 1232, 1233, 1307, 1308, 1309, 1310, 1311, 1312] (by decide +kernel) (by decide +kernel)
set_option maxRecDepth 20000 in
theorem gL_law_X8_chip : GoodIn wsLw (wsV RL 91 RX8 yX8_chip wsX8_chip) := goodIn_app (goodIn_of _ (by decide +kernel)) ggL_law_X8_chip
set_option maxRecDepth 20000 in
theorem ggL_law_X9_chip : GoodIn wsLw wsX9_chip := goodIn_r _ [700, 153, 701, 702, 703, 5, 704, 118, 705, 706, 707, 708, 467, 468, 469, 470, 643, 644, 645, 515, 516, 517, 1234, 1235, 1236, 1237, 1238, 1239, 1240, 1241, 1242, 1243, 1244, 1245, 1246, 1247, 1248, 1249, 1250, 1251, 1252, 1253, 1254, 1255, 1256, 1257, 1258, 1259, 1260, 1261, 1262] (by decide +kernel) (by decide +kernel)
set_option maxRecDepth 20000 in
theorem gL_law_X9_chip : GoodIn wsLw (wsV RL 94 RX9 yX9_chip wsX9_chip) := goodIn_app (goodIn_of _ (by decide +kernel)) ggL_law_X9_chip
set_option maxRecDepth 20000 in
theorem ggL_law_X8_full : GoodIn wsLw wsX8_full := goodIn_r _ [712, 20, 578, 41, 506, 507, 455, 456, 457, 47, 458, 178, 673, 674, 675, 676, 57, 579, 580, 581, 40, 582, 583, 584, 585, 586, 109, 587, 326, 327, 328, 588, 110, 508, 509, 2, 510, 713, 714, 715, 716, 589, 590, 591, 592, 111, 593, 185, 186, 187, 594, 595, 596, 597, 551, 552, 548, 549, 550, 598, 599, 600, 601, 112, 602, 603, 604, 605, 606, 607, 608, 609, 610, 611, 113, 612, 613, 614, 615, 59, 616, 617, 534, 535, 536, 618, 619, 620, 621, 717, 631, 632, 633, 1226, 1227, 1228, 1229, 1230, 1231, 1232, 1233, 1307, 1308, 1309, 1310, 1311, 1312, 1300, 1301, 1302, 1303, 1304, 1305, 1306] (by decide +kernel) (by decide +kernel)
set_option maxRecDepth 20000 in
theorem gL_law_X8_full : GoodIn wsLw (wsV RL 95 RX8 yX8_full wsX8_full) := goodIn_app (goodIn_of _ (by decide +kernel)) ggL_law_X8_full
set_option maxRecDepth 20000 in
theorem ggL_law_X9_full : GoodIn wsLw wsX9_full := goodIn_r _ [721, 153, 638, 123, 463, 464, 465, 5, 466, 118, 353, 354, 355, 467, 468, 469, 470, 639, 640, 641, 642, 124, 557, 558, 559, 560, 561, 562, 563, 564, 515, 516, 517, 565, 566, 567, 568, 569, 570, 643, 644, 645, 1234, 1235, 1236, 1237, 1238, 1239, 1240, 1241, 1242, 1243, 1244, 1245, 1246, 1247, 1248, 1249, 1250, 1251, 1252, 1253, 1254, 1255, 1256, 1257, 1258, 1259, 1260, 1261, 1262] (by decide +kernel) (by decide +kernel)
set_option maxRecDepth 20000 in
theorem gL_law_X9_full : GoodIn wsLw (wsV RL 98 RX9 yX9_full wsX9_full) := goodIn_app (goodIn_of _ (by decide +kernel)) ggL_law_X9_full
set_option maxRecDepth 20000 in
theorem ggL_law_X8_leg : GoodIn wsLw wsX8_leg := goodIn_r _ [725, 20, 428, 429, 29, 432, 433, 2, 434, 726, 727, 728, 64, 729, 183, 70, 730, 731, 732, 28, 733, 90, 734, 735, 736, 613, 614, 47, 615, 59, 616, 456, 457, 458, 178, 617, 534, 535, 536, 618, 619, 620, 621, 737, 738, 739, 740, 741, 742, 743, 744, 745, 746, 747, 748, 749, 750, 751, 752, 753, 754, 755, 756, 757, 758, 85, 759, 760, 761, 762, 71, 763, 764, 765, 766, 69, 767, 768, 769, 770, 771, 772, 773, 774, 72, 775, 694, 695, 696, 58, 57, 606, 607, 776, 777, 778, 779, 780, 89, 87, 781, 185, 186, 187, 782, 783, 784, 785, 786, 787, 788, 789, 790, 678, 679, 680, 791, 792, 793, 794, 88, 795, 796, 797, 798, 799, 800, 801, 802, 803, 804, 805, 806, 628, 807, 808, 809, 810, 538, 539, 540, 541, 542, 543, 811, 812, 813, 814, 548, 549, 550, 551, 552, 815, 545, 546, 547, 816, 817, 818, 819, 1226, 1227, 1228, 1229, 1230, 1231, 1232, 1233, 1307, 1308, 1309, 1310, 1311, 1312, 1313, 1314, 1315, 1316, 1317, 1277, 1278, 1279, 1280, 1281, 1282, 1283, 1284, 1285, 1286, 1287, 1288] (by decide +kernel) (by decide +kernel)
set_option maxRecDepth 20000 in
theorem gL_law_X8_leg : GoodIn wsLw (wsV RL 99 RX8 yX8_leg wsX8_leg) := goodIn_app (goodIn_of _ (by decide +kernel)) ggL_law_X8_leg
set_option maxRecDepth 20000 in
theorem ggL_law_X9_leg : GoodIn wsLw wsX9_leg := goodIn_r _ [823, 153, 125, 439, 440, 5, 441, 353, 354, 355, 442, 443, 444, 445, 118, 824, 825, 826, 827, 828, 829, 830, 831, 832, 833, 834, 835, 836, 837, 838, 839, 840, 841, 842, 843, 844, 845, 846, 847, 848, 643, 644, 645, 849, 850, 851, 852, 701, 702, 703, 704, 705, 706, 707, 708, 467, 468, 469, 470, 515, 516, 517, 853, 854, 855, 856, 857, 858, 859, 860, 126, 861, 862, 863, 864, 865, 866, 867, 868, 869, 870, 871, 557, 558, 559, 560, 571, 572, 573, 872, 873, 874, 875, 876, 877, 878, 879, 880, 881, 882, 883, 565, 566, 567, 568, 569, 570, 561, 562, 563, 564, 1234, 1235, 1236, 1237, 1238, 1239, 1240, 1241, 1242, 1243, 1244, 1245, 1246, 1247, 1248, 1249, 1250, 1251, 1252, 1253, 1254, 1255, 1256, 1257, 1258, 1259, 1260, 1261, 1262] (by decide +kernel) (by decide +kernel)
set_option maxRecDepth 20000 in
theorem gL_law_X9_leg : GoodIn wsLw (wsV RL 102 RX9 yX9_leg wsX9_leg) := goodIn_app (goodIn_of _ (by decide +kernel)) ggL_law_X9_leg
set_option maxRecDepth 20000 in
theorem ggL_law_X8_heard : GoodIn wsLw wsX8_heard := goodIn_r _ [887, 29, 888, 889, 890, 891, 2, 892, 20, 428, 429, 432, 433, 434, 730, 731, 732, 28, 733, 90, 734, 735, 736, 613, 614, 47, 615, 59, 616, 456, 457, 458, 178, 617, 534, 535, 536, 618, 619, 620, 621, 737, 738, 739, 740, 741, 742, 743, 744, 745, 746, 747, 748, 749, 750, 751, 752, 753, 754, 755, 756, 757, 758, 85, 759, 760, 761, 64, 762, 183, 70, 71, 763, 764, 765, 766, 69, 767, 768, 769, 770, 771, 772, 773, 774, 72, 775, 694, 695, 696, 58, 57, 606, 607, 776, 777, 778, 779, 780, 89, 87, 781, 185, 186, 187, 782, 783, 784, 785, 786, 787, 788, 789, 790, 678, 679, 680, 791, 792, 793, 794, 88, 795, 796, 797, 798, 799, 800, 801, 802, 803, 804, 805, 806, 628, 807, 808, 809, 810, 538, 539, 540, 541, 542, 543, 811, 812, 813, 814, 548, 549, 550, 551, 552, 815, 545, 546, 547, 1226, 1227, 1228, 1229, 1230, 1231, 1232, 1233, 1277, 1278, 1279, 1280, 1281, 1282, 1283, 1284, 1285, 1286, 1287, 1288, 1307, 1308, 1309, 1310, 1311, 1312, 1313, 1314, 1315, 1316, 1317] (by decide +kernel) (by decide +kernel)
set_option maxRecDepth 20000 in
theorem gL_law_X8_heard : GoodIn wsLw (wsV RL 103 RX8 yX8_heard wsX8_heard) := goodIn_app (goodIn_of _ (by decide +kernel)) ggL_law_X8_heard
set_option maxRecDepth 20000 in
theorem ggL_law_X9_heard : GoodIn wsLw wsX9_heard := goodIn_r _ [896, 153, 125, 439, 440, 5, 441, 353, 354, 355, 442, 443, 444, 445, 118, 824, 825, 826, 827, 828, 829, 830, 831, 832, 833, 834, 835, 836, 837, 838, 839, 840, 841, 842, 843, 844, 845, 846, 847, 848, 643, 644, 645, 849, 850, 851, 852, 701, 702, 703, 704, 705, 706, 707, 708, 467, 468, 469, 470, 515, 516, 517, 853, 854, 855, 856, 857, 858, 859, 860, 126, 861, 862, 863, 864, 865, 866, 867, 868, 869, 870, 871, 557, 558, 559, 560, 571, 572, 573, 872, 873, 874, 875, 876, 877, 878, 879, 880, 881, 882, 883, 565, 566, 567, 568, 569, 570, 561, 562, 563, 564, 1234, 1235, 1236, 1237, 1238, 1239, 1240, 1241, 1242, 1243, 1244, 1245, 1246, 1247, 1248, 1249, 1250, 1251, 1252, 1253, 1254, 1255, 1256, 1257, 1258, 1259, 1260, 1261, 1262] (by decide +kernel) (by decide +kernel)
set_option maxRecDepth 20000 in
theorem gL_law_X9_heard : GoodIn wsLw (wsV RL 106 RX9 yX9_heard wsX9_heard) := goodIn_app (goodIn_of _ (by decide +kernel)) ggL_law_X9_heard
set_option maxRecDepth 20000 in
theorem ggL_law_X8_behind : GoodIn wsLw wsX8_behind := goodIn_r _ [900, 901, 889, 890, 891, 2, 892, 20, 428, 429, 432, 433, 434, 902, 903, 904, 905, 906, 764, 765, 64, 766, 69, 183, 71, 70, 767, 768, 769, 770, 1226, 1227, 1228, 1229, 1230, 1231, 1232, 1233, 1307, 1308, 1309, 1310, 1311, 1312, 1313, 1314, 1315, 1316, 1317] (by decide +kernel) (by decide +kernel)
set_option maxRecDepth 20000 in
theorem gL_law_X8_behind : GoodIn wsLw (wsV RL 107 RX8 yX8_behind wsX8_behind) := goodIn_app (goodIn_of _ (by decide +kernel)) ggL_law_X8_behind
