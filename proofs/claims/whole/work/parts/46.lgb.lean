set_option maxRecDepth 20000 in
theorem ggL_law_L_divide : GoodIn wsL_law wsL_divide := goodIn_ca (goodIn_ca (goodIn_ca (goodIn_r _ [657, 157, 48, 158, 658, 659, 660, 2, 661, 172, 173, 393, 394, 395, 396, 167, 168, 17, 312, 313, 314, 62, 63, 545, 546, 547, 662, 663, 664, 332, 665, 343, 344, 666, 667, 668, 669, 1068, 1069, 1070, 1071, 1072, 1073, 1074, 1075, 1076, 1077, 1078, 1079, 1080, 1081, 1082, 1086, 1087, 1088, 1089, 1090, 1045, 1046, 1047, 1048, 1049, 1050, 1051, 1052, 1053] (by decide +kernel) (by decide +kernel)) (goodIn_sub (fun _ h => List.mem_append_left _ (List.mem_append_right _ h)) (by decide +kernel))) (goodIn_sub (fun _ h => List.mem_append_left _ (List.mem_append_left _ (List.mem_append_right _ h))) (by decide +kernel))) (goodIn_sub (fun _ h => List.mem_append_left _ (List.mem_append_left _ (List.mem_append_left _ (List.mem_append_right _ h)))) (by decide +kernel))
set_option maxRecDepth 20000 in
theorem gL_law_L_divide : GoodIn wsL_law (va_wsS RL 212 yL_divide wsL_divide) := goodIn_app (goodIn_of _ (by decide +kernel)) ggL_law_L_divide
set_option maxRecDepth 20000 in
theorem ggL_law_X7_divide : GoodIn wsL_law wsX7_divide := goodIn_r _ [673, 27, 417, 418, 419, 420, 5, 421, 94, 95, 96, 25, 97, 98, 86, 87, 88, 89, 90, 91, 92, 93, 191, 192, 193, 194, 195, 196, 197, 198, 199, 200, 201, 202, 203, 204, 205, 206, 33, 580, 581, 582, 583, 584, 585, 586, 354, 587, 359, 588, 1054, 1055, 1056, 1057, 1058, 1059, 1060, 1091, 1092, 1093, 1094, 1095, 1096, 1097, 1098, 1099, 1100, 1101, 1102, 1103, 1104, 1105, 1106, 1107, 1061, 1062, 1063] (by decide +kernel) (by decide +kernel)
set_option maxRecDepth 20000 in
theorem gL_law_X7_divide : GoodIn wsL_law (wsV RL 215 RX7 yX7_divide wsX7_divide) := goodIn_app (goodIn_of _ (by decide +kernel)) ggL_law_X7_divide
set_option maxRecDepth 20000 in
theorem ggL_law_L_readsAt : GoodIn wsL_law wsL_readsAt := goodIn_ca (goodIn_ca (goodIn_ca (goodIn_r _ [676, 157, 48, 158, 677, 678, 679, 2, 680, 393, 394, 395, 396, 167, 168, 17, 225, 226, 227, 59, 60, 61, 62, 63, 681, 682, 683, 172, 173, 684, 685, 686, 332, 687, 344, 636, 688, 689, 690, 691, 345, 346, 343, 692, 229, 230, 58, 231, 69, 232, 233, 234, 70, 71, 72, 73, 74, 75, 76, 1068, 1069, 1070, 1071, 1072, 1073, 1074, 1075, 1076, 1077, 1078, 1079, 1080, 1081, 1082, 1045, 1046, 1047, 1048, 1049, 1050, 1051, 1052, 1053, 1086, 1087, 1088, 1089, 1090, 1064, 1065] (by decide +kernel) (by decide +kernel)) (goodIn_sub (fun _ h => List.mem_append_left _ (List.mem_append_left _ (List.mem_append_right _ h))) (by decide +kernel))) (goodIn_sub (fun _ h => List.mem_append_left _ (List.mem_append_left _ (List.mem_append_left _ (List.mem_append_right _ h)))) (by decide +kernel))) (goodIn_sub (fun _ h => List.mem_append_left _ (List.mem_append_right _ h)) (by decide +kernel))
set_option maxRecDepth 20000 in
theorem gL_law_L_readsAt : GoodIn wsL_law (va_wsS RL 216 yL_readsAt wsL_readsAt) := goodIn_app (goodIn_of _ (by decide +kernel)) ggL_law_L_readsAt
set_option maxRecDepth 20000 in
theorem ggL_law_X7_readsAt : GoodIn wsL_law wsX7_readsAt := goodIn_r _ [696, 27, 417, 418, 419, 420, 5, 421, 94, 95, 96, 25, 97, 98, 86, 87, 88, 89, 90, 91, 92, 93, 239, 240, 241, 191, 192, 193, 194, 195, 196, 197, 198, 199, 200, 201, 202, 203, 204, 205, 206, 33, 697, 698, 699, 354, 700, 362, 360, 368, 361, 701, 603, 243, 244, 83, 245, 102, 1054, 1055, 1056, 1057, 1058, 1059, 1060, 1091, 1092, 1093, 1094, 1095, 1096, 1097, 1098, 1099, 1100, 1101, 1102, 1103, 1104, 1105, 1106, 1107, 1061, 1062, 1063, 1066, 1067] (by decide +kernel) (by decide +kernel)
set_option maxRecDepth 20000 in
theorem gL_law_X7_readsAt : GoodIn wsL_law (wsV RL 218 RX7 yX7_readsAt wsX7_readsAt) := goodIn_app (goodIn_of _ (by decide +kernel)) ggL_law_X7_readsAt
set_option maxRecDepth 20000 in
theorem ggL_law_L_bath : GoodIn wsL_law wsL_bath := goodIn_ca (goodIn_ca (goodIn_ca (goodIn_ca (goodIn_r _ [704, 157, 48, 158, 249, 705, 706, 707, 2, 708, 393, 394, 395, 396, 167, 168, 17, 528, 529, 530, 59, 60, 61, 62, 63, 225, 226, 227, 545, 546, 547, 172, 173, 681, 682, 683, 548, 549, 550, 551, 254, 255, 18, 552, 553, 554, 311, 555, 327, 556, 557, 558, 559, 412, 328, 401, 560, 561, 562, 563, 323, 564, 565, 566, 567, 568, 569, 570, 571, 329, 572, 573, 574, 58, 575, 261, 229, 230, 231, 69, 232, 233, 234, 70, 71, 72, 73, 74, 75, 76, 402, 709, 710, 711, 712, 713, 333, 714, 322, 325, 715, 716, 717, 718, 719, 324, 720, 721, 685, 686, 332, 687, 344, 636, 688, 689, 690, 691, 345, 346, 343, 692, 722, 723, 724, 321, 725, 726, 337, 338, 727, 728, 729, 730, 1045, 1046, 1047, 1048, 1049, 1050, 1051, 1052, 1053, 1068, 1069, 1070, 1071, 1072, 1073, 1074, 1075, 1076, 1077, 1078, 1079, 1080, 1081, 1082, 1086, 1087, 1088, 1089, 1090, 1064, 1065, 1083, 1084, 1085] (by decide +kernel) (by decide +kernel)) (goodIn_sub (fun _ h => List.mem_append_left _ (List.mem_append_left _ (List.mem_append_right _ h))) (by decide +kernel))) (goodIn_sub (fun _ h => List.mem_append_left _ (List.mem_append_left _ (List.mem_append_left _ (List.mem_append_right _ h)))) (by decide +kernel))) (goodIn_sub (fun _ h => List.mem_append_left _ (List.mem_append_right _ h)) (by decide +kernel))) (goodIn_sub (fun _ h => List.mem_append_right _ h) (by decide +kernel))
set_option maxRecDepth 20000 in
theorem gL_law_L_bath : GoodIn wsL_law (va_wsS RL 219 yL_bath wsL_bath) := goodIn_app (goodIn_of _ (by decide +kernel)) ggL_law_L_bath
set_option maxRecDepth 20000 in
theorem ggL_law_X7_bath : GoodIn wsL_law wsX7_bath := goodIn_r _ [734, 27, 417, 28, 85, 75, 72, 76, 84, 71, 73, 735, 418, 419, 420, 5, 421, 94, 95, 96, 25, 97, 98, 86, 87, 88, 89, 90, 91, 92, 93, 535, 536, 537, 239, 240, 241, 191, 192, 193, 194, 195, 196, 197, 198, 199, 200, 201, 202, 203, 204, 205, 206, 33, 580, 581, 582, 583, 584, 585, 586, 354, 587, 359, 588, 589, 590, 591, 592, 593, 594, 369, 370, 520, 368, 595, 596, 597, 598, 599, 600, 601, 602, 603, 243, 244, 83, 245, 102, 697, 698, 699, 700, 362, 360, 361, 701, 736, 737, 738, 739, 740, 741, 742, 743, 107, 108, 744, 147, 148, 149, 745, 746, 747, 748, 749, 750, 751, 752, 753, 754, 755, 756, 757, 758, 759, 760, 761, 762, 763, 764, 765, 12, 13, 103, 104, 105, 106, 109, 110, 111, 112, 113, 114, 115, 116, 117, 118, 119, 120, 32, 121, 122, 123, 124, 125, 126, 127, 128, 129, 130, 131, 132, 133, 134, 135, 136, 137, 138, 139, 140, 141, 142, 143, 144, 145, 146, 1054, 1055, 1056, 1057, 1058, 1059, 1060, 1091, 1092, 1093, 1094, 1095, 1096, 1097, 1098, 1099, 1100, 1101, 1102, 1103, 1104, 1105, 1106, 1107, 1061, 1062, 1063, 1066, 1067, 1112] (by decide +kernel) (by decide +kernel)
set_option maxRecDepth 20000 in
theorem gL_law_X7_bath : GoodIn wsL_law (wsV RL 221 RX7 yX7_bath wsX7_bath) := goodIn_app (goodIn_of _ (by decide +kernel)) ggL_law_X7_bath
set_option maxRecDepth 20000 in
theorem ggL_law_L_error : GoodIn wsL_law wsL_error := goodIn_ca (goodIn_ca (goodIn_r _ [768, 157, 249, 769, 770, 771, 2, 772, 393, 394, 395, 396, 167, 168, 17, 773, 774, 775, 254, 255, 776, 777, 778, 321, 779, 726, 338, 1068, 1069, 1070, 1071, 1072, 1073, 1074, 1075, 1076, 1077, 1078, 1079, 1080, 1081, 1082, 1045, 1046, 1047, 1048, 1049, 1050, 1051, 1052, 1053, 1083, 1084, 1085] (by decide +kernel) (by decide +kernel)) (goodIn_sub (fun _ h => List.mem_append_left _ (List.mem_append_left _ (List.mem_append_right _ h))) (by decide +kernel))) (goodIn_sub (fun _ h => List.mem_append_right _ h) (by decide +kernel))
set_option maxRecDepth 20000 in
theorem gL_law_L_error : GoodIn wsL_law (va_wsS RL 222 yL_error wsL_error) := goodIn_app (goodIn_of _ (by decide +kernel)) ggL_law_L_error
set_option maxRecDepth 20000 in
theorem ggL_law_X7_error : GoodIn wsL_law wsX7_error := goodIn_r _ [783, 27, 417, 418, 419, 420, 5, 421, 94, 95, 96, 25, 97, 98, 86, 87, 88, 89, 90, 91, 92, 93, 784, 785, 786, 787, 191, 192, 193, 194, 195, 196, 197, 198, 199, 200, 201, 202, 203, 204, 205, 206, 33, 788, 789, 790, 791, 792, 793, 794, 354, 795, 366, 796, 367, 797, 798, 746, 747, 748, 749, 750, 1054, 1055, 1056, 1057, 1058, 1059, 1060, 1091, 1092, 1093, 1094, 1095, 1096, 1097, 1098, 1099, 1100, 1101, 1102, 1103, 1104, 1105, 1106, 1107, 1061, 1062, 1063, 1112] (by decide +kernel) (by decide +kernel)
set_option maxRecDepth 20000 in
theorem gL_law_X7_error : GoodIn wsL_law (wsV RL 224 RX7 yX7_error wsX7_error) := goodIn_app (goodIn_of _ (by decide +kernel)) ggL_law_X7_error
set_option maxRecDepth 20000 in
theorem ggL_law_L_tests : GoodIn wsL_law wsL_tests := goodIn_ca (goodIn_r _ [801, 157, 802, 803, 804, 2, 805, 393, 394, 395, 396, 167, 168, 17, 1068, 1069, 1070, 1071, 1072, 1073, 1074, 1075, 1076, 1077, 1078, 1079, 1080, 1081, 1082, 1083, 1084, 1085, 1045, 1046, 1047, 1048, 1049, 1050, 1051, 1052, 1053] (by decide +kernel) (by decide +kernel)) (goodIn_sub (fun _ h => List.mem_append_left _ (List.mem_append_left _ (List.mem_append_right _ h))) (by decide +kernel))
set_option maxRecDepth 20000 in
theorem gL_law_L_tests : GoodIn wsL_law (va_wsS RL 225 yL_tests wsL_tests) := goodIn_app (goodIn_of _ (by decide +kernel)) ggL_law_L_tests
set_option maxRecDepth 20000 in
theorem ggL_law_X7_tests : GoodIn wsL_law wsX7_tests := goodIn_r _ [809, 27, 417, 418, 419, 420, 5, 421, 94, 95, 96, 25, 97, 98, 86, 87, 88, 89, 90, 91, 92, 93, 191, 192, 193, 194, 195, 196, 197, 198, 199, 200, 201, 202, 203, 204, 205, 206, 33, 1054, 1055, 1056, 1057, 1058, 1059, 1060, 1091, 1092, 1093, 1094, 1095, 1096, 1097, 1098, 1099, 1100, 1101, 1102, 1103, 1104, 1105, 1106, 1107, 1061, 1062, 1063] (by decide +kernel) (by decide +kernel)
set_option maxRecDepth 20000 in
theorem gL_law_X7_tests : GoodIn wsL_law (wsV RL 227 RX7 yX7_tests wsX7_tests) := goodIn_app (goodIn_of _ (by decide +kernel)) ggL_law_X7_tests
set_option maxRecDepth 20000 in
theorem ggL_law_L_begin : GoodIn wsL_law wsL_begin := goodIn_ca (goodIn_r _ [812, 157, 813, 814, 815, 2, 816, 393, 394, 395, 396, 167, 168, 17, 1068, 1069, 1070, 1071, 1072, 1073, 1074, 1075, 1076, 1077, 1078, 1079, 1080, 1081, 1082, 1083, 1084, 1085, 1045, 1046, 1047, 1048, 1049, 1050, 1051, 1052, 1053] (by decide +kernel) (by decide +kernel)) (goodIn_sub (fun _ h => List.mem_append_left _ (List.mem_append_left _ (List.mem_append_right _ h))) (by decide +kernel))
set_option maxRecDepth 20000 in
theorem gL_law_L_begin : GoodIn wsL_law (va_wsS RL 228 yL_begin wsL_begin) := goodIn_app (goodIn_of _ (by decide +kernel)) ggL_law_L_begin
set_option maxRecDepth 20000 in
theorem ggL_law_X7_begin : GoodIn wsL_law wsX7_begin := goodIn_r _ [820, 27, 417, 418, 419, 420, 5, 421, 94, 95, 96, 25, 97, 98, 86, 87, 88, 89, 90, 91, 92, 93, 191, 192, 193, 194, 195, 196, 197, 198, 199, 200, 201, 202, 203, 204, 205, 206, 33, 821, 822, 823, 824, 107, 108, 1054, 1055, 1056, 1057, 1058, 1059, 1060, 1091, 1092, 1093, 1094, 1095, 1096, 1097, 1098, 1099, 1100, 1101, 1102, 1103, 1104, 1105, 1106, 1107, 1061, 1062, 1063] (by decide +kernel) (by decide +kernel)
set_option maxRecDepth 20000 in
theorem gL_law_X7_begin : GoodIn wsL_law (wsV RL 230 RX7 yX7_begin wsX7_begin) := goodIn_app (goodIn_of _ (by decide +kernel)) ggL_law_X7_begin
set_option maxRecDepth 20000 in
theorem ggL_law_L_worst : GoodIn wsL_law wsL_worst := goodIn_ca (goodIn_ca (goodIn_r _ [827, 157, 249, 828, 829, 830, 2, 831, 393, 394, 395, 396, 167, 168, 17, 773, 774, 775, 254, 255, 832, 833, 834, 321, 835, 726, 338, 836, 837, 72, 838, 839, 75, 76, 1068, 1069, 1070, 1071, 1072, 1073, 1074, 1075, 1076, 1077, 1078, 1079, 1080, 1081, 1082, 1045, 1046, 1047, 1048, 1049, 1050, 1051, 1052, 1053, 1083, 1084, 1085] (by decide +kernel) (by decide +kernel)) (goodIn_sub (fun _ h => List.mem_append_left _ (List.mem_append_left _ (List.mem_append_right _ h))) (by decide +kernel))) (goodIn_sub (fun _ h => List.mem_append_right _ h) (by decide +kernel))
set_option maxRecDepth 20000 in
theorem gL_law_L_worst : GoodIn wsL_law (va_wsS RL 231 yL_worst wsL_worst) := goodIn_app (goodIn_of _ (by decide +kernel)) ggL_law_L_worst
set_option maxRecDepth 20000 in
theorem ggL_law_X7_worst : GoodIn wsL_law wsX7_worst := goodIn_r _ [843, 27, 417, 418, 419, 420, 5, 421, 94, 95, 96, 25, 97, 98, 86, 87, 88, 89, 90, 91, 92, 93, 784, 785, 786, 787, 191, 192, 193, 194, 195, 196, 197, 198, 199, 200, 201, 202, 203, 204, 205, 206, 33, 788, 789, 790, 791, 844, 845, 846, 354, 847, 366, 848, 837, 72, 838, 849, 75, 76, 850, 851, 793, 794, 795, 796, 367, 797, 798, 746, 747, 748, 749, 750, 1054, 1055, 1056, 1057, 1058, 1059, 1060, 1061, 1062, 1063, 1091, 1092, 1093, 1094, 1095, 1096, 1097, 1098, 1099, 1100, 1101, 1102, 1103, 1104, 1105, 1106, 1107, 1112] (by decide +kernel) (by decide +kernel)
set_option maxRecDepth 20000 in
theorem gL_law_X7_worst : GoodIn wsL_law (wsV RL 233 RX7 yX7_worst wsX7_worst) := goodIn_app (goodIn_of _ (by decide +kernel)) ggL_law_X7_worst
set_option maxRecDepth 20000 in
theorem ggL_law_L_grade : GoodIn wsL_law wsL_grade := goodIn_ca (goodIn_ca (goodIn_r _ [854, 157, 158, 855, 856, 857, 2, 858, 393, 394, 395, 396, 167, 168, 17, 859, 860, 861, 172, 173, 832, 833, 834, 321, 835, 726, 338, 836, 837, 72, 838, 839, 75, 76, 862, 863, 864, 1068, 1069, 1070, 1071, 1072, 1073, 1074, 1075, 1076, 1077, 1078, 1079, 1080, 1081, 1082, 1045, 1046, 1047, 1048, 1049, 1050, 1051, 1052, 1053, 1083, 1084, 1085] (by decide +kernel) (by decide +kernel)) (goodIn_sub (fun _ h => List.mem_append_left _ (List.mem_append_left _ (List.mem_append_right _ h))) (by decide +kernel))) (goodIn_sub (fun _ h => List.mem_append_left _ (List.mem_append_right _ h)) (by decide +kernel))
set_option maxRecDepth 20000 in
theorem gL_law_L_grade : GoodIn wsL_law (va_wsS RL 234 yL_grade wsL_grade) := goodIn_app (goodIn_of _ (by decide +kernel)) ggL_law_L_grade
set_option maxRecDepth 20000 in
theorem ggL_law_X7_grade : GoodIn wsL_law wsX7_grade := goodIn_r _ [868, 27, 417, 418, 419, 420, 5, 421, 94, 95, 96, 25, 97, 98, 86, 87, 88, 89, 90, 91, 92, 93, 869, 870, 871, 872, 191, 192, 193, 194, 195, 196, 197, 198, 199, 200, 201, 202, 203, 204, 205, 206, 33, 873, 874, 875, 354, 876, 877, 845, 846, 847, 366, 848, 837, 72, 838, 849, 75, 76, 850, 851, 793, 794, 795, 796, 367, 797, 798, 746, 747, 748, 749, 750, 1054, 1055, 1056, 1057, 1058, 1059, 1060, 1061, 1062, 1063, 1091, 1092, 1093, 1094, 1095, 1096, 1097, 1098, 1099, 1100, 1101, 1102, 1103, 1104, 1105, 1106, 1107, 1112] (by decide +kernel) (by decide +kernel)
set_option maxRecDepth 20000 in
theorem gL_law_X7_grade : GoodIn wsL_law (wsV RL 236 RX7 yX7_grade wsX7_grade) := goodIn_app (goodIn_of _ (by decide +kernel)) ggL_law_X7_grade
set_option maxRecDepth 20000 in
theorem ggL_law_L_certify : GoodIn wsL_law wsL_certify := goodIn_ca (goodIn_ca (goodIn_r _ [880, 157, 158, 881, 882, 883, 2, 884, 172, 173, 473, 393, 394, 395, 396, 167, 168, 17, 859, 860, 861, 832, 833, 834, 321, 835, 726, 338, 836, 837, 72, 838, 839, 75, 76, 862, 863, 864, 1068, 1069, 1070, 1071, 1072, 1073, 1074, 1075, 1076, 1077, 1078, 1079, 1080, 1081, 1082, 1045, 1046, 1047, 1048, 1049, 1050, 1051, 1052, 1053, 1083, 1084, 1085] (by decide +kernel) (by decide +kernel)) (goodIn_sub (fun _ h => List.mem_append_left _ (List.mem_append_right _ h)) (by decide +kernel))) (goodIn_sub (fun _ h => List.mem_append_left _ (List.mem_append_left _ (List.mem_append_right _ h))) (by decide +kernel))
set_option maxRecDepth 20000 in
theorem gL_law_L_certify : GoodIn wsL_law (va_wsS RL 237 yL_certify wsL_certify) := goodIn_app (goodIn_of _ (by decide +kernel)) ggL_law_L_certify
set_option maxRecDepth 20000 in
theorem ggL_law_X7_certify : GoodIn wsL_law wsX7_certify := goodIn_r _ [888, 27, 417, 486, 418, 419, 420, 5, 421, 94, 95, 96, 25, 97, 98, 86, 87, 88, 89, 90, 91, 92, 93, 869, 870, 871, 872, 191, 192, 193, 194, 195, 196, 197, 198, 199, 200, 201, 202, 203, 204, 205, 206, 33, 873, 874, 875, 354, 876, 877, 845, 846, 847, 366, 848, 837, 72, 838, 849, 75, 76, 850, 851, 793, 794, 795, 796, 367, 797, 798, 746, 747, 748, 749, 750, 1054, 1055, 1056, 1057, 1058, 1059, 1060, 1091, 1092, 1093, 1094, 1095, 1096, 1097, 1098, 1099, 1100, 1101, 1102, 1103, 1104, 1105, 1106, 1107, 1061, 1062, 1063, 1112] (by decide +kernel) (by decide +kernel)
set_option maxRecDepth 20000 in
theorem gL_law_X7_certify : GoodIn wsL_law (wsV RL 239 RX7 yX7_certify wsX7_certify) := goodIn_app (goodIn_of _ (by decide +kernel)) ggL_law_X7_certify
set_option maxRecDepth 20000 in
theorem ggL_law_L_isCertified : GoodIn wsL_law wsL_isCertified := goodIn_ca (goodIn_r _ [891, 157, 892, 893, 894, 2, 895, 473, 393, 394, 395, 396, 167, 168, 17, 896, 897, 898, 311, 899, 438, 325, 1045, 1046, 1047, 1048, 1049, 1050, 1051, 1052, 1053, 1068, 1069, 1070, 1071, 1072, 1073, 1074, 1075, 1076, 1077, 1078, 1079, 1080, 1081, 1082] (by decide +kernel) (by decide +kernel)) (goodIn_sub (fun _ h => List.mem_append_left _ (List.mem_append_left _ (List.mem_append_right _ h))) (by decide +kernel))
set_option maxRecDepth 20000 in
theorem gL_law_L_isCertified : GoodIn wsL_law (va_wsS RL 240 yL_isCertified wsL_isCertified) := goodIn_app (goodIn_of _ (by decide +kernel)) ggL_law_L_isCertified
set_option maxRecDepth 20000 in
theorem ggL_law_X7_isCertified : GoodIn wsL_law wsX7_isCertified := goodIn_r _ [903, 27, 417, 418, 419, 420, 5, 421, 94, 95, 96, 25, 97, 98, 86, 87, 88, 89, 90, 91, 92, 93, 191, 192, 193, 194, 195, 196, 197, 198, 199, 200, 201, 202, 203, 204, 205, 206, 33, 904, 905, 906, 907, 486, 1054, 1055, 1056, 1057, 1058, 1059, 1060, 1061, 1062, 1063, 1091, 1092, 1093, 1094, 1095, 1096, 1097, 1098, 1099, 1100, 1101, 1102, 1103, 1104, 1105, 1106, 1107] (by decide +kernel) (by decide +kernel)
set_option maxRecDepth 20000 in
theorem gL_law_X7_isCertified : GoodIn wsL_law (wsV RL 242 RX7 yX7_isCertified wsX7_isCertified) := goodIn_app (goodIn_of _ (by decide +kernel)) ggL_law_X7_isCertified
set_option maxRecDepth 20000 in
theorem ggL_law_L_breakThread : GoodIn wsL_law wsL_breakThread := goodIn_ca (goodIn_ca (goodIn_ca (goodIn_r _ [910, 157, 48, 158, 911, 912, 913, 2, 914, 393, 394, 395, 396, 167, 168, 17, 59, 60, 61, 62, 63, 545, 546, 547, 172, 173, 1068, 1069, 1070, 1071, 1072, 1073, 1074, 1075, 1076, 1077, 1078, 1079, 1080, 1081, 1082, 1045, 1046, 1047, 1048, 1049, 1050, 1051, 1052, 1053] (by decide +kernel) (by decide +kernel)) (goodIn_sub (fun _ h => List.mem_append_left _ (List.mem_append_left _ (List.mem_append_right _ h))) (by decide +kernel))) (goodIn_sub (fun _ h => List.mem_append_left _ (List.mem_append_left _ (List.mem_append_left _ (List.mem_append_right _ h)))) (by decide +kernel))) (goodIn_sub (fun _ h => List.mem_append_left _ (List.mem_append_right _ h)) (by decide +kernel))
set_option maxRecDepth 20000 in
theorem gL_law_L_breakThread : GoodIn wsL_law (va_wsS RL 243 yL_breakThread wsL_breakThread) := goodIn_app (goodIn_of _ (by decide +kernel)) ggL_law_L_breakThread
set_option maxRecDepth 20000 in
theorem ggL_law_X7_breakThread : GoodIn wsL_law wsX7_breakThread := goodIn_r _ [918, 27, 417, 418, 419, 420, 5, 421, 94, 95, 96, 25, 97, 98, 86, 87, 88, 89, 90, 91, 92, 93, 580, 581, 582, 583, 191, 192, 193, 194, 195, 196, 197, 198, 199, 200, 201, 202, 203, 204, 205, 206, 33, 584, 585, 586, 354, 587, 359, 588, 1054, 1055, 1056, 1057, 1058, 1059, 1060, 1091, 1092, 1093, 1094, 1095, 1096, 1097, 1098, 1099, 1100, 1101, 1102, 1103, 1104, 1105, 1106, 1107, 1061, 1062, 1063] (by decide +kernel) (by decide +kernel)
set_option maxRecDepth 20000 in
theorem gL_law_X7_breakThread : GoodIn wsL_law (wsV RL 245 RX7 yX7_breakThread wsX7_breakThread) := goodIn_app (goodIn_of _ (by decide +kernel)) ggL_law_X7_breakThread
set_option maxRecDepth 20000 in
theorem ggL_law_L_isBroken : GoodIn wsL_law wsL_isBroken := goodIn_ca (goodIn_r _ [921, 157, 922, 923, 924, 2, 925, 393, 394, 395, 396, 167, 168, 17, 1068, 1069, 1070, 1071, 1072, 1073, 1074, 1075, 1076, 1077, 1078, 1079, 1080, 1081, 1082, 1045, 1046, 1047, 1048, 1049, 1050, 1051, 1052, 1053] (by decide +kernel) (by decide +kernel)) (goodIn_sub (fun _ h => List.mem_append_left _ (List.mem_append_left _ (List.mem_append_right _ h))) (by decide +kernel))
set_option maxRecDepth 20000 in
theorem gL_law_L_isBroken : GoodIn wsL_law (va_wsS RL 246 yL_isBroken wsL_isBroken) := goodIn_app (goodIn_of _ (by decide +kernel)) ggL_law_L_isBroken
set_option maxRecDepth 20000 in
theorem ggL_law_X7_isBroken : GoodIn wsL_law wsX7_isBroken := goodIn_r _ [929, 27, 417, 418, 419, 420, 5, 421, 94, 95, 96, 25, 97, 98, 86, 87, 88, 89, 90, 91, 92, 93, 191, 192, 193, 194, 195, 196, 197, 198, 199, 200, 201, 202, 203, 204, 205, 206, 33, 1054, 1055, 1056, 1057, 1058, 1059, 1060, 1091, 1092, 1093, 1094, 1095, 1096, 1097, 1098, 1099, 1100, 1101, 1102, 1103, 1104, 1105, 1106, 1107, 1061, 1062, 1063] (by decide +kernel) (by decide +kernel)
set_option maxRecDepth 20000 in
theorem gL_law_X7_isBroken : GoodIn wsL_law (wsV RL 248 RX7 yX7_isBroken wsX7_isBroken) := goodIn_app (goodIn_of _ (by decide +kernel)) ggL_law_X7_isBroken
set_option maxRecDepth 20000 in
theorem ggL_law_L_keep : GoodIn wsL_law wsL_keep := goodIn_ca (goodIn_r _ [932, 157, 933, 934, 935, 2, 936, 393, 394, 395, 396, 167, 168, 17, 1068, 1069, 1070, 1071, 1072, 1073, 1074, 1075, 1076, 1077, 1078, 1079, 1080, 1081, 1082, 1045, 1046, 1047, 1048, 1049, 1050, 1051, 1052, 1053] (by decide +kernel) (by decide +kernel)) (goodIn_sub (fun _ h => List.mem_append_left _ (List.mem_append_left _ (List.mem_append_right _ h))) (by decide +kernel))
set_option maxRecDepth 20000 in
theorem gL_law_L_keep : GoodIn wsL_law (va_wsS RL 249 yL_keep wsL_keep) := goodIn_app (goodIn_of _ (by decide +kernel)) ggL_law_L_keep
set_option maxRecDepth 20000 in
theorem ggL_law_X7_keep : GoodIn wsL_law wsX7_keep := goodIn_r _ [940, 27, 417, 418, 419, 420, 5, 421, 94, 95, 96, 25, 97, 98, 86, 87, 88, 89, 90, 91, 92, 93, 191, 192, 193, 194, 195, 196, 197, 198, 199, 200, 201, 202, 203, 204, 205, 206, 33, 1054, 1055, 1056, 1057, 1058, 1059, 1060, 1091, 1092, 1093, 1094, 1095, 1096, 1097, 1098, 1099, 1100, 1101, 1102, 1103, 1104, 1105, 1106, 1107, 1061, 1062, 1063] (by decide +kernel) (by decide +kernel)
set_option maxRecDepth 20000 in
theorem gL_law_X7_keep : GoodIn wsL_law (wsV RL 252 RX7 yX7_keep wsX7_keep) := goodIn_app (goodIn_of _ (by decide +kernel)) ggL_law_X7_keep
set_option maxRecDepth 20000 in
theorem ggL_law_L_shake : GoodIn wsL_law wsL_shake := goodIn_ca (goodIn_ca (goodIn_ca (goodIn_r _ [943, 157, 158, 249, 944, 945, 946, 2, 947, 172, 173, 254, 255, 393, 394, 395, 396, 167, 168, 17, 1068, 1069, 1070, 1071, 1072, 1073, 1074, 1075, 1076, 1077, 1078, 1079, 1080, 1081, 1082, 1045, 1046, 1047, 1048, 1049, 1050, 1051, 1052, 1053] (by decide +kernel) (by decide +kernel)) (goodIn_sub (fun _ h => List.mem_append_left _ (List.mem_append_right _ h)) (by decide +kernel))) (goodIn_sub (fun _ h => List.mem_append_right _ h) (by decide +kernel))) (goodIn_sub (fun _ h => List.mem_append_left _ (List.mem_append_left _ (List.mem_append_right _ h))) (by decide +kernel))
set_option maxRecDepth 20000 in
theorem gL_law_L_shake : GoodIn wsL_law (va_wsS RL 253 yL_shake wsL_shake) := goodIn_app (goodIn_of _ (by decide +kernel)) ggL_law_L_shake
set_option maxRecDepth 20000 in
theorem ggL_law_X7_shake : GoodIn wsL_law wsX7_shake := goodIn_r _ [951, 27, 417, 418, 419, 420, 5, 421, 94, 95, 96, 25, 97, 98, 86, 87, 88, 89, 90, 91, 92, 93, 191, 192, 193, 194, 195, 196, 197, 198, 199, 200, 201, 202, 203, 204, 205, 206, 33, 1054, 1055, 1056, 1057, 1058, 1059, 1060, 1091, 1092, 1093, 1094, 1095, 1096, 1097, 1098, 1099, 1100, 1101, 1102, 1103, 1104, 1105, 1106, 1107, 1061, 1062, 1063] (by decide +kernel) (by decide +kernel)
set_option maxRecDepth 20000 in
theorem gL_law_X7_shake : GoodIn wsL_law (wsV RL 255 RX7 yX7_shake wsX7_shake) := goodIn_app (goodIn_of _ (by decide +kernel)) ggL_law_X7_shake
set_option maxRecDepth 20000 in
theorem ggL_law_L_barometer : GoodIn wsL_law wsL_barometer := goodIn_ca (goodIn_r _ [954, 48, 955, 956, 957, 2, 958, 959, 59, 60, 61, 62, 63] (by decide +kernel) (by decide +kernel)) (goodIn_sub (fun _ h => List.mem_append_left _ (List.mem_append_left _ (List.mem_append_left _ (List.mem_append_right _ h)))) (by decide +kernel))
set_option maxRecDepth 20000 in
theorem gL_law_L_barometer : GoodIn wsL_law (va_wsS RL 256 yL_barometer wsL_barometer) := goodIn_app (goodIn_of _ (by decide +kernel)) ggL_law_L_barometer
set_option maxRecDepth 20000 in
theorem ggL_law_X7_barometer : GoodIn wsL_law wsX7_barometer := goodIn_r _ [963, 964, 86, 87, 5, 88, 89, 90, 91, 92, 93, 1054, 1055, 1056, 1057, 1058, 1059, 1060] (by decide +kernel) (by decide +kernel)
set_option maxRecDepth 20000 in
theorem gL_law_X7_barometer : GoodIn wsL_law (wsV RL 258 RX7 yX7_barometer wsX7_barometer) := goodIn_app (goodIn_of _ (by decide +kernel)) ggL_law_X7_barometer
set_option maxRecDepth 20000 in
theorem ggL_law_X4_stock : GoodIn wsL_law wsX4_stock := goodIn_r _ [968, 380, 1045, 1046, 1047, 1048, 1049, 1050, 1051, 1052, 1053] (by decide +kernel) (by decide +kernel)
set_option maxRecDepth 20000 in
theorem gL_law_X4_stock : GoodIn wsL_law (wsV RL 259 RX4 yX4_stock wsX4_stock) := goodIn_app (goodIn_of _ (by decide +kernel)) ggL_law_X4_stock
set_option maxRecDepth 20000 in
theorem ggL_law_X7_stock : GoodIn wsL_law wsX7_stock := goodIn_r _ [972, 93, 385, 1054, 1055, 1056, 1057, 1058, 1059, 1060] (by decide +kernel) (by decide +kernel)
set_option maxRecDepth 20000 in
theorem gL_law_X7_stock : GoodIn wsL_law (wsV RL 262 RX7 yX7_stock wsX7_stock) := goodIn_app (goodIn_of _ (by decide +kernel)) ggL_law_X7_stock
set_option maxRecDepth 20000 in
theorem ggL_law_X4_spilt : GoodIn wsL_law wsX4_spilt := goodIn_r _ [976, 429, 1045, 1046, 1047, 1048, 1049, 1050, 1051, 1052, 1053] (by decide +kernel) (by decide +kernel)
set_option maxRecDepth 20000 in
theorem gL_law_X4_spilt : GoodIn wsL_law (wsV RL 263 RX4 yX4_spilt wsX4_spilt) := goodIn_app (goodIn_of _ (by decide +kernel)) ggL_law_X4_spilt
set_option maxRecDepth 20000 in
theorem ggL_law_X7_spilt : GoodIn wsL_law wsX7_spilt := goodIn_r _ [980, 93, 443, 1054, 1055, 1056, 1057, 1058, 1059, 1060] (by decide +kernel) (by decide +kernel)
set_option maxRecDepth 20000 in
theorem gL_law_X7_spilt : GoodIn wsL_law (wsV RL 266 RX7 yX7_spilt wsX7_spilt) := goodIn_app (goodIn_of _ (by decide +kernel)) ggL_law_X7_spilt
set_option maxRecDepth 20000 in
theorem ggL_law_X4_checksum : GoodIn wsL_law wsX4_checksum := goodIn_r _ [984, 985, 15, 986, 17, 380, 473, 228, 229, 230, 58, 231, 69, 232, 233, 234, 70, 71, 72, 73, 74, 75, 76, 987, 988, 989, 311, 990, 991, 412, 401, 322, 992, 993, 994, 321, 995, 726, 996, 337, 1045, 1046, 1047, 1048, 1049, 1050, 1051, 1052, 1053, 1064, 1065, 1068, 1069, 1070, 1071, 1072, 1073, 1074, 1075, 1076, 1077, 1078, 1079, 1080, 1081, 1082, 1083, 1084, 1085] (by decide +kernel) (by decide +kernel)
set_option maxRecDepth 20000 in
theorem gL_law_X4_checksum : GoodIn wsL_law (wsV RL 267 RX4 yX4_checksum wsX4_checksum) := goodIn_app (goodIn_of _ (by decide +kernel)) ggL_law_X4_checksum
set_option maxRecDepth 20000 in
theorem ggL_law_X7_checksum : GoodIn wsL_law wsX7_checksum := goodIn_r _ [1000, 93, 1001, 26, 186, 1002, 27, 417, 735, 385, 486, 487, 488, 489, 25, 490, 491, 492, 493, 494, 495, 496, 497, 498, 12, 13, 499, 500, 108, 501, 502, 503, 504, 505, 506, 507, 508, 509, 510, 511, 512, 513, 514, 515, 242, 243, 244, 83, 245, 102, 745, 746, 747, 748, 749, 750, 1054, 1055, 1056, 1057, 1058, 1059, 1060, 1091, 1092, 1093, 1094, 1095, 1096, 1097, 1098, 1099, 1100, 1101, 1102, 1103, 1104, 1105, 1106, 1107, 1108, 1109, 1110, 1111, 1061, 1062, 1063, 1066, 1067, 1112] (by decide +kernel) (by decide +kernel)
set_option maxRecDepth 20000 in
theorem gL_law_X7_checksum : GoodIn wsL_law (wsV RL 271 RX7 yX7_checksum wsX7_checksum) := goodIn_app (goodIn_of _ (by decide +kernel)) ggL_law_X7_checksum
set_option maxRecDepth 20000 in
theorem ggL_law_L_certifiedShare : GoodIn wsL_law wsL_certifiedShare := goodIn_ca (goodIn_r _ [1005, 249, 1006, 1007, 1008, 2, 1009, 254, 255, 309, 17, 473, 896, 897, 898, 311, 899, 438, 325, 1045, 1046, 1047, 1048, 1049, 1050, 1051, 1052, 1053, 1068, 1069, 1070, 1071, 1072, 1073, 1074, 1075, 1076, 1077, 1078, 1079, 1080, 1081, 1082] (by decide +kernel) (by decide +kernel)) (goodIn_sub (fun _ h => List.mem_append_right _ h) (by decide +kernel))
set_option maxRecDepth 20000 in
theorem gL_law_L_certifiedShare : GoodIn wsL_law (va_wsS RL 272 yL_certifiedShare wsL_certifiedShare) := goodIn_app (goodIn_of _ (by decide +kernel)) ggL_law_L_certifiedShare
set_option maxRecDepth 20000 in
theorem ggL_law_X7_certifiedShare : GoodIn wsL_law wsX7_certifiedShare := goodIn_r _ [1013, 27, 417, 788, 789, 790, 25, 791, 98, 89, 90, 91, 5, 92, 93, 487, 488, 489, 490, 491, 492, 493, 494, 495, 496, 497, 498, 12, 13, 499, 500, 108, 501, 502, 503, 504, 505, 506, 507, 508, 509, 510, 511, 512, 513, 514, 515, 904, 905, 906, 907, 486, 94, 95, 96, 97, 1054, 1055, 1056, 1057, 1058, 1059, 1060, 1061, 1062, 1063, 1108, 1109, 1110, 1111, 1091, 1092, 1093, 1094, 1095, 1096, 1097, 1098, 1099, 1100, 1101, 1102, 1103, 1104, 1105, 1106, 1107] (by decide +kernel) (by decide +kernel)
set_option maxRecDepth 20000 in
theorem gL_law_X7_certifiedShare : GoodIn wsL_law (wsV RL 275 RX7 yX7_certifiedShare wsX7_certifiedShare) := goodIn_app (goodIn_of _ (by decide +kernel)) ggL_law_X7_certifiedShare
set_option maxRecDepth 20000 in
theorem ggL_law_L_meanError : GoodIn wsL_law wsL_meanError := goodIn_ca (goodIn_ca (goodIn_r _ [1016, 157, 249, 1017, 1018, 1019, 2, 1020, 393, 394, 395, 396, 167, 168, 17, 773, 774, 775, 254, 255, 1021, 1022, 1023, 321, 1024, 726, 338, 1068, 1069, 1070, 1071, 1072, 1073, 1074, 1075, 1076, 1077, 1078, 1079, 1080, 1081, 1082, 1083, 1084, 1085, 1045, 1046, 1047, 1048, 1049, 1050, 1051, 1052, 1053] (by decide +kernel) (by decide +kernel)) (goodIn_sub (fun _ h => List.mem_append_left _ (List.mem_append_left _ (List.mem_append_right _ h))) (by decide +kernel))) (goodIn_sub (fun _ h => List.mem_append_right _ h) (by decide +kernel))
set_option maxRecDepth 20000 in
theorem gL_law_L_meanError : GoodIn wsL_law (va_wsS RL 276 yL_meanError wsL_meanError) := goodIn_app (goodIn_of _ (by decide +kernel)) ggL_law_L_meanError
set_option maxRecDepth 20000 in
theorem ggL_law_X7_meanError : GoodIn wsL_law wsX7_meanError := goodIn_r _ [1028, 27, 417, 418, 419, 420, 5, 421, 94, 95, 96, 25, 97, 98, 86, 87, 88, 89, 90, 91, 92, 93, 784, 785, 786, 787, 191, 192, 193, 194, 195, 196, 197, 198, 199, 200, 201, 202, 203, 204, 205, 206, 33, 788, 789, 790, 791, 792, 793, 794, 354, 795, 366, 796, 367, 797, 798, 746, 747, 748, 749, 750, 1054, 1055, 1056, 1057, 1058, 1059, 1060, 1091, 1092, 1093, 1094, 1095, 1096, 1097, 1098, 1099, 1100, 1101, 1102, 1103, 1104, 1105, 1106, 1107, 1061, 1062, 1063, 1112] (by decide +kernel) (by decide +kernel)
set_option maxRecDepth 20000 in
theorem gL_law_X7_meanError : GoodIn wsL_law (wsV RL 279 RX7 yX7_meanError wsX7_meanError) := goodIn_app (goodIn_of _ (by decide +kernel)) ggL_law_X7_meanError
set_option maxRecDepth 20000 in
theorem ggL_law_X4_isSound : GoodIn wsL_law wsX4_isSound := goodIn_r _ [1032, 380, 429, 17, 379, 430, 431, 432, 311, 433, 323, 412, 1033, 1034, 1035, 1036, 401, 322, 478, 479, 480, 481, 328, 329, 1037, 1038, 1039, 2, 1040, 1045, 1046, 1047, 1048, 1049, 1050, 1051, 1052, 1053, 1068, 1069, 1070, 1071, 1072, 1073, 1074, 1075, 1076, 1077, 1078, 1079, 1080, 1081, 1082, 1083, 1084, 1085] (by decide +kernel) (by decide +kernel)
set_option maxRecDepth 20000 in
theorem gL_law_X4_isSound : GoodIn wsL_law (wsV RL 280 RX4 yX4_isSound wsX4_isSound) := goodIn_app (goodIn_of _ (by decide +kernel)) ggL_law_X4_isSound
set_option maxRecDepth 20000 in
theorem ggL_law_X7_isSound : GoodIn wsL_law wsX7_isSound := goodIn_r _ [1044, 93, 1054, 1055, 1056, 1057, 1058, 1059, 1060] (by decide +kernel) (by decide +kernel)
set_option maxRecDepth 20000 in
theorem gL_law_X7_isSound : GoodIn wsL_law (wsV RL 284 RX7 yX7_isSound wsX7_isSound) := goodIn_app (goodIn_of _ (by decide +kernel)) ggL_law_X7_isSound

