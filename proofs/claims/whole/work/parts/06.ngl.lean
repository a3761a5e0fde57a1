set_option maxRecDepth 20000 in
theorem ggL_law_X2_init : GoodIn wsL_law wsX2_init := goodIn_r _ [8, 9, 10, 11, 12, 13, 14, 15, 16, 17, 18, 19, 20, 21, 22, 23, 24, 25, 26, 27, 28, 29, 30, 31, 32, 33, 34, 35, 36, 37, 38, 39, 40, 41, 535, 536, 537, 538, 526, 527, 528, 529, 539, 540] (by decide +kernel) (by decide +kernel)
set_option maxRecDepth 20000 in
theorem gL_law_X2_init : GoodIn wsL_law (wsX2_init) := ggL_law_X2_init
set_option maxRecDepth 20000 in
theorem ggL_law_X3_init : GoodIn wsL_law wsX3_init := goodIn_r _ [44, 45, 10, 11, 27, 46, 47, 30, 48, 49, 50, 51, 52, 5, 53, 530, 531, 532, 533, 534] (by decide +kernel) (by decide +kernel)
set_option maxRecDepth 20000 in
theorem gL_law_X3_init : GoodIn wsL_law (wsX3_init) := ggL_law_X3_init
set_option maxRecDepth 20000 in
theorem ggL_law_X2_reset : GoodIn wsL_law wsX2_reset := goodIn_r _ [57, 58, 15, 59, 60, 61, 14, 62, 26, 38, 39, 40, 41, 28, 29, 31, 526, 527, 528, 529, 535, 536, 537, 538] (by decide +kernel) (by decide +kernel)
set_option maxRecDepth 20000 in
theorem gL_law_X2_reset : GoodIn wsL_law (wsV RL 13 RX2 yX2_reset wsX2_reset) := goodIn_app (goodIn_of _ (by decide +kernel)) ggL_law_X2_reset
set_option maxRecDepth 20000 in
theorem ggL_law_X3_reset : GoodIn wsL_law wsX3_reset := goodIn_r _ [66, 67, 68, 69, 5, 70, 71, 72, 73, 74, 46, 50, 51, 52, 53, 530, 531, 532, 533, 534] (by decide +kernel) (by decide +kernel)
set_option maxRecDepth 20000 in
theorem gL_law_X3_reset : GoodIn wsL_law (wsV RL 17 RX3 yX3_reset wsX3_reset) := goodIn_app (goodIn_of _ (by decide +kernel)) ggL_law_X3_reset
set_option maxRecDepth 20000 in
theorem ggL_law_X2_link : GoodIn wsL_law wsX2_link := goodIn_r _ [78, 15, 79, 80, 81, 82, 83, 84, 14, 85, 26, 86, 87, 88, 89, 90, 91, 92, 93, 28, 94, 95, 96, 97, 98, 99, 100, 101, 102, 103, 104, 105, 106, 107, 108, 109, 110, 111, 112, 113, 114, 115, 116, 117, 118, 526, 527, 528, 529, 535, 536, 537, 538] (by decide +kernel) (by decide +kernel)
set_option maxRecDepth 20000 in
theorem gL_law_X2_link : GoodIn wsL_law (wsV RL 18 RX2 yX2_link wsX2_link) := goodIn_app (goodIn_of _ (by decide +kernel)) ggL_law_X2_link
set_option maxRecDepth 20000 in
theorem ggL_law_X3_link : GoodIn wsL_law wsX3_link := goodIn_r _ [122, 123, 124, 125, 46, 126, 127, 128, 5, 129, 71, 72, 73, 74, 68, 69, 70, 130, 131, 132, 133, 134, 135, 136, 137, 138, 139, 140, 141, 530, 531, 532, 533, 534] (by decide +kernel) (by decide +kernel)
set_option maxRecDepth 20000 in
theorem gL_law_X3_link : GoodIn wsL_law (wsV RL 22 RX3 yX3_link wsX3_link) := goodIn_app (goodIn_of _ (by decide +kernel)) ggL_law_X3_link
set_option maxRecDepth 20000 in
theorem ggL_law_X2_cut : GoodIn wsL_law wsX2_cut := goodIn_r _ [145, 15, 79, 146, 82, 83, 84, 14, 85, 26, 86, 87, 88, 89, 90, 91, 92, 93, 28, 94, 147, 107, 108, 109, 110, 526, 527, 528, 529, 535, 536, 537, 538] (by decide +kernel) (by decide +kernel)
set_option maxRecDepth 20000 in
theorem gL_law_X2_cut : GoodIn wsL_law (wsV RL 23 RX2 yX2_cut wsX2_cut) := goodIn_app (goodIn_of _ (by decide +kernel)) ggL_law_X2_cut
set_option maxRecDepth 20000 in
theorem ggL_law_X3_cut : GoodIn wsL_law wsX3_cut := goodIn_r _ [151, 123, 152, 46, 126, 127, 128, 5, 129, 71, 72, 73, 74, 68, 69, 70, 130, 131, 132, 133, 134, 135, 136, 137, 530, 531, 532, 533, 534] (by decide +kernel) (by decide +kernel)
set_option maxRecDepth 20000 in
theorem gL_law_X3_cut : GoodIn wsL_law (wsV RL 26 RX3 yX3_cut wsX3_cut) := goodIn_app (goodIn_of _ (by decide +kernel)) ggL_law_X3_cut
set_option maxRecDepth 20000 in
theorem ggL_law_X2_reroot : GoodIn wsL_law wsX2_reroot := goodIn_r _ [156, 15, 79, 82, 83, 84, 14, 85, 26, 95, 96, 97, 98, 99, 100, 101, 102, 90, 91, 92, 93, 28, 94, 103, 104, 105, 106, 157, 158, 159, 160, 161, 108, 109, 110, 526, 527, 528, 529, 535, 536, 537, 538] (by decide +kernel) (by decide +kernel)
set_option maxRecDepth 20000 in
theorem gL_law_X2_reroot : GoodIn wsL_law (wsV RL 27 RX2 yX2_reroot wsX2_reroot) := goodIn_app (goodIn_of _ (by decide +kernel)) ggL_law_X2_reroot
set_option maxRecDepth 20000 in
theorem ggL_law_X3_reroot : GoodIn wsL_law wsX3_reroot := goodIn_r _ [165, 123, 46, 126, 127, 128, 5, 129, 71, 72, 73, 74, 68, 69, 70, 138, 139, 140, 141, 130, 131, 132, 133, 134, 135, 136, 137, 530, 531, 532, 533, 534] (by decide +kernel) (by decide +kernel)
set_option maxRecDepth 20000 in
theorem gL_law_X3_reroot : GoodIn wsL_law (wsV RL 30 RX3 yX3_reroot wsX3_reroot) := goodIn_app (goodIn_of _ (by decide +kernel)) ggL_law_X3_reroot
set_option maxRecDepth 20000 in
theorem ggL_law_X2_vertexCount : GoodIn wsL_law wsX2_vertexCount := goodIn_r _ [169, 15, 59, 60, 61, 14, 62, 26, 526, 527, 528, 529, 535, 536, 537, 538] (by decide +kernel) (by decide +kernel)
set_option maxRecDepth 20000 in
theorem gL_law_X2_vertexCount : GoodIn wsL_law (wsV RL 31 RX2 yX2_vertexCount wsX2_vertexCount) := goodIn_app (goodIn_of _ (by decide +kernel)) ggL_law_X2_vertexCount
set_option maxRecDepth 20000 in
theorem ggL_law_X3_vertexCount : GoodIn wsL_law wsX3_vertexCount := goodIn_r _ [173, 71, 72, 73, 5, 74, 46, 530, 531, 532, 533, 534] (by decide +kernel) (by decide +kernel)
set_option maxRecDepth 20000 in
theorem gL_law_X3_vertexCount : GoodIn wsL_law (wsV RL 35 RX3 yX3_vertexCount wsX3_vertexCount) := goodIn_app (goodIn_of _ (by decide +kernel)) ggL_law_X3_vertexCount
set_option maxRecDepth 20000 in
theorem ggL_law_X2_treeCount : GoodIn wsL_law wsX2_treeCount := goodIn_r _ [177, 15, 178, 179, 180, 14, 181, 26, 182, 87, 88, 89, 90, 91, 92, 93, 28, 94, 83, 84, 85, 526, 527, 528, 529, 535, 536, 537, 538] (by decide +kernel) (by decide +kernel)
set_option maxRecDepth 20000 in
theorem gL_law_X2_treeCount : GoodIn wsL_law (wsV RL 36 RX2 yX2_treeCount wsX2_treeCount) := goodIn_app (goodIn_of _ (by decide +kernel)) ggL_law_X2_treeCount
set_option maxRecDepth 20000 in
theorem ggL_law_X3_treeCount : GoodIn wsL_law wsX3_treeCount := goodIn_r _ [186, 71, 72, 73, 5, 74, 46, 130, 131, 132, 133, 134, 135, 136, 137, 530, 531, 532, 533, 534] (by decide +kernel) (by decide +kernel)
set_option maxRecDepth 20000 in
theorem gL_law_X3_treeCount : GoodIn wsL_law (wsV RL 39 RX3 yX3_treeCount wsX3_treeCount) := goodIn_app (goodIn_of _ (by decide +kernel)) ggL_law_X3_treeCount
set_option maxRecDepth 20000 in
theorem ggL_law_X2_parent : GoodIn wsL_law wsX2_parent := goodIn_r _ [190, 15, 79, 146, 82, 83, 84, 14, 85, 26, 86, 87, 88, 89, 90, 91, 92, 93, 28, 94, 147, 526, 527, 528, 529, 535, 536, 537, 538] (by decide +kernel) (by decide +kernel)
set_option maxRecDepth 20000 in
theorem gL_law_X2_parent : GoodIn wsL_law (wsV RL 40 RX2 yX2_parent wsX2_parent) := goodIn_app (goodIn_of _ (by decide +kernel)) ggL_law_X2_parent
set_option maxRecDepth 20000 in
theorem ggL_law_X3_parent : GoodIn wsL_law wsX3_parent := goodIn_r _ [194, 123, 152, 126, 127, 128, 5, 129, 71, 72, 73, 74, 46, 68, 69, 70, 130, 131, 132, 133, 134, 135, 136, 137, 530, 531, 532, 533, 534] (by decide +kernel) (by decide +kernel)
set_option maxRecDepth 20000 in
theorem gL_law_X3_parent : GoodIn wsL_law (wsV RL 43 RX3 yX3_parent wsX3_parent) := goodIn_app (goodIn_of _ (by decide +kernel)) ggL_law_X3_parent
set_option maxRecDepth 20000 in
theorem ggL_law_X2_root : GoodIn wsL_law wsX2_root := goodIn_r _ [198, 15, 79, 82, 83, 84, 14, 85, 26, 95, 96, 97, 98, 99, 100, 101, 102, 90, 91, 92, 93, 28, 94, 103, 104, 105, 106, 526, 527, 528, 529, 535, 536, 537, 538] (by decide +kernel) (by decide +kernel)
set_option maxRecDepth 20000 in
theorem gL_law_X2_root : GoodIn wsL_law (wsV RL 44 RX2 yX2_root wsX2_root) := goodIn_app (goodIn_of _ (by decide +kernel)) ggL_law_X2_root
set_option maxRecDepth 20000 in
theorem ggL_law_X3_root : GoodIn wsL_law wsX3_root := goodIn_r _ [202, 123, 126, 127, 128, 5, 129, 71, 72, 73, 74, 46, 68, 69, 70, 138, 139, 140, 141, 130, 131, 132, 133, 134, 135, 136, 137, 530, 531, 532, 533, 534] (by decide +kernel) (by decide +kernel)
set_option maxRecDepth 20000 in
theorem gL_law_X3_root : GoodIn wsL_law (wsV RL 47 RX3 yX3_root wsX3_root) := goodIn_app (goodIn_of _ (by decide +kernel)) ggL_law_X3_root
set_option maxRecDepth 20000 in
theorem ggL_law_X2_depth : GoodIn wsL_law wsX2_depth := goodIn_r _ [206, 15, 79, 82, 83, 84, 14, 85, 26, 207, 100, 101, 102, 90, 91, 92, 93, 28, 94, 526, 527, 528, 529, 535, 536, 537, 538] (by decide +kernel) (by decide +kernel)
set_option maxRecDepth 20000 in
theorem gL_law_X2_depth : GoodIn wsL_law (wsV RL 48 RX2 yX2_depth wsX2_depth) := goodIn_app (goodIn_of _ (by decide +kernel)) ggL_law_X2_depth
set_option maxRecDepth 20000 in
theorem ggL_law_X3_depth : GoodIn wsL_law wsX3_depth := goodIn_r _ [211, 123, 126, 127, 128, 5, 129, 71, 72, 73, 74, 46, 68, 69, 70, 212, 213, 214, 215, 130, 131, 132, 133, 134, 135, 136, 137, 530, 531, 532, 533, 534] (by decide +kernel) (by decide +kernel)
set_option maxRecDepth 20000 in
theorem gL_law_X3_depth : GoodIn wsL_law (wsV RL 51 RX3 yX3_depth wsX3_depth) := goodIn_app (goodIn_of _ (by decide +kernel)) ggL_law_X3_depth
set_option maxRecDepth 20000 in
theorem ggL_law_X2_connected : GoodIn wsL_law wsX2_connected := goodIn_r _ [219, 15, 79, 82, 83, 84, 14, 85, 26, 95, 96, 97, 98, 99, 100, 101, 102, 90, 91, 92, 93, 28, 94, 103, 104, 105, 106, 526, 527, 528, 529, 535, 536, 537, 538] (by decide +kernel) (by decide +kernel)
set_option maxRecDepth 20000 in
theorem gL_law_X2_connected : GoodIn wsL_law (wsV RL 52 RX2 yX2_connected wsX2_connected) := goodIn_app (goodIn_of _ (by decide +kernel)) ggL_law_X2_connected
set_option maxRecDepth 20000 in
theorem ggL_law_X3_connected : GoodIn wsL_law wsX3_connected := goodIn_r _ [223, 123, 126, 127, 128, 5, 129, 71, 72, 73, 74, 46, 68, 69, 70, 138, 139, 140, 141, 130, 131, 132, 133, 134, 135, 136, 137, 530, 531, 532, 533, 534] (by decide +kernel) (by decide +kernel)
set_option maxRecDepth 20000 in
theorem gL_law_X3_connected : GoodIn wsL_law (wsV RL 55 RX3 yX3_connected wsX3_connected) := goodIn_app (goodIn_of _ (by decide +kernel)) ggL_law_X3_connected
set_option maxRecDepth 20000 in
theorem ggL_law_X2_commonAncestor : GoodIn wsL_law wsX2_commonAncestor := goodIn_r _ [227, 15, 228, 229, 230, 2, 231, 79, 232, 82, 83, 84, 14, 85, 26, 95, 96, 97, 98, 99, 100, 101, 102, 90, 91, 92, 93, 28, 94, 103, 104, 105, 106, 233, 234, 235, 236, 526, 527, 528, 529, 535, 536, 537, 538] (by decide +kernel) (by decide +kernel)
set_option maxRecDepth 20000 in
theorem gL_law_X2_commonAncestor : GoodIn wsL_law (wsV RL 56 RX2 yX2_commonAncestor wsX2_commonAncestor) := goodIn_app (goodIn_of _ (by decide +kernel)) ggL_law_X2_commonAncestor
set_option maxRecDepth 20000 in
theorem ggL_law_X3_commonAncestor : GoodIn wsL_law wsX3_commonAncestor := goodIn_r _ [240, 241, 242, 243, 5, 244, 123, 245, 126, 127, 128, 129, 71, 72, 73, 74, 46, 68, 69, 70, 138, 139, 140, 141, 130, 131, 132, 133, 134, 135, 136, 137, 246, 247, 248, 249, 212, 213, 214, 215, 530, 531, 532, 533, 534] (by decide +kernel) (by decide +kernel)
set_option maxRecDepth 20000 in
theorem gL_law_X3_commonAncestor : GoodIn wsL_law (wsV RL 59 RX3 yX3_commonAncestor wsX3_commonAncestor) := goodIn_app (goodIn_of _ (by decide +kernel)) ggL_law_X3_commonAncestor
set_option maxRecDepth 20000 in
theorem ggL_law_X2_distance : GoodIn wsL_law wsX2_distance := goodIn_r _ [253, 15, 228, 229, 230, 2, 231, 79, 232, 82, 83, 84, 14, 85, 26, 95, 96, 97, 98, 99, 100, 101, 102, 90, 91, 92, 93, 28, 94, 103, 104, 105, 106, 254, 255, 256, 257, 258, 234, 235, 236, 526, 527, 528, 529, 535, 536, 537, 538] (by decide +kernel) (by decide +kernel)
set_option maxRecDepth 20000 in
theorem gL_law_X2_distance : GoodIn wsL_law (wsV RL 60 RX2 yX2_distance wsX2_distance) := goodIn_app (goodIn_of _ (by decide +kernel)) ggL_law_X2_distance
set_option maxRecDepth 20000 in
theorem ggL_law_X3_distance : GoodIn wsL_law wsX3_distance := goodIn_r _ [262, 241, 242, 243, 5, 244, 123, 245, 126, 127, 128, 129, 71, 72, 73, 74, 46, 68, 69, 70, 138, 139, 140, 141, 130, 131, 132, 133, 134, 135, 136, 137, 263, 264, 265, 266, 212, 213, 214, 215, 246, 247, 248, 249, 530, 531, 532, 533, 534] (by decide +kernel) (by decide +kernel)
set_option maxRecDepth 20000 in
theorem gL_law_X3_distance : GoodIn wsL_law (wsV RL 63 RX3 yX3_distance wsX3_distance) := goodIn_app (goodIn_of _ (by decide +kernel)) ggL_law_X3_distance
set_option maxRecDepth 20000 in
theorem ggL_law_X2_pathVertex : GoodIn wsL_law wsX2_pathVertex := goodIn_r _ [270, 21, 146, 271, 272, 273, 2, 274, 15, 228, 229, 230, 231, 79, 232, 82, 83, 84, 14, 85, 26, 95, 96, 97, 98, 99, 100, 101, 102, 90, 91, 92, 93, 28, 94, 103, 104, 105, 106, 275, 276, 277, 20, 278, 37, 279, 234, 235, 236, 280, 281, 282, 283, 284, 285, 286, 287, 36, 288, 289, 290, 291, 292, 293, 294, 295, 296, 297, 298, 299, 300, 301, 302, 303, 304, 305, 526, 527, 528, 529, 535, 536, 537, 538, 539, 540] (by decide +kernel) (by decide +kernel)
set_option maxRecDepth 20000 in
theorem gL_law_X2_pathVertex : GoodIn wsL_law (wsV RL 64 RX2 yX2_pathVertex wsX2_pathVertex) := goodIn_app (goodIn_of _ (by decide +kernel)) ggL_law_X2_pathVertex
set_option maxRecDepth 20000 in
theorem ggL_law_X3_pathVertex : GoodIn wsL_law wsX3_pathVertex := goodIn_r _ [309, 310, 49, 152, 241, 242, 243, 5, 244, 123, 245, 126, 127, 128, 129, 71, 72, 73, 74, 46, 68, 69, 70, 138, 139, 140, 141, 130, 131, 132, 133, 134, 135, 136, 137, 311, 312, 313, 314, 246, 247, 248, 249, 212, 213, 214, 215, 530, 531, 532, 533, 534] (by decide +kernel) (by decide +kernel)
set_option maxRecDepth 20000 in
theorem gL_law_X3_pathVertex : GoodIn wsL_law (wsV RL 68 RX3 yX3_pathVertex wsX3_pathVertex) := goodIn_app (goodIn_of _ (by decide +kernel)) ggL_law_X3_pathVertex
set_option maxRecDepth 20000 in
theorem ggL_law_X2_pathSum : GoodIn wsL_law wsX2_pathSum := goodIn_r _ [318, 21, 15, 271, 272, 273, 2, 274, 228, 229, 230, 231, 79, 232, 82, 83, 84, 14, 85, 26, 95, 96, 97, 98, 99, 100, 101, 102, 90, 91, 92, 93, 28, 94, 103, 104, 105, 106, 275, 276, 277, 20, 278, 37, 279, 234, 235, 236, 280, 281, 282, 283, 284, 285, 286, 287, 36, 288, 289, 290, 291, 292, 293, 294, 295, 296, 297, 298, 299, 300, 319, 320, 321, 322, 302, 303, 304, 305, 323, 324, 325, 326, 29, 526, 527, 528, 529, 535, 536, 537, 538, 539, 540] (by decide +kernel) (by decide +kernel)
set_option maxRecDepth 20000 in
theorem gL_law_X2_pathSum : GoodIn wsL_law (wsV RL 69 RX2 yX2_pathSum wsX2_pathSum) := goodIn_app (goodIn_of _ (by decide +kernel)) ggL_law_X2_pathSum
set_option maxRecDepth 20000 in
theorem ggL_law_X3_pathSum : GoodIn wsL_law wsX3_pathSum := goodIn_r _ [330, 310, 49, 241, 242, 243, 5, 244, 123, 245, 126, 127, 128, 129, 71, 72, 73, 74, 46, 68, 69, 70, 138, 139, 140, 141, 130, 131, 132, 133, 134, 135, 136, 137, 311, 312, 313, 314, 246, 247, 248, 249, 212, 213, 214, 215, 331, 332, 333, 334, 530, 531, 532, 533, 534] (by decide +kernel) (by decide +kernel)
set_option maxRecDepth 20000 in
theorem gL_law_X3_pathSum : GoodIn wsL_law (wsV RL 72 RX3 yX3_pathSum wsX3_pathSum) := goodIn_app (goodIn_of _ (by decide +kernel)) ggL_law_X3_pathSum
set_option maxRecDepth 20000 in
theorem ggL_law_X2_pathMinimum : GoodIn wsL_law wsX2_pathMinimum := goodIn_r _ [338, 21, 15, 271, 272, 273, 2, 274, 228, 229, 230, 231, 79, 232, 82, 83, 84, 14, 85, 26, 95, 96, 97, 98, 99, 100, 101, 102, 90, 91, 92, 93, 28, 94, 103, 104, 105, 106, 275, 276, 277, 20, 278, 37, 279, 234, 235, 236, 280, 281, 282, 283, 284, 285, 286, 287, 36, 288, 289, 290, 291, 292, 293, 294, 295, 296, 297, 298, 299, 300, 319, 320, 321, 322, 302, 303, 304, 305, 323, 324, 325, 326, 29, 526, 527, 528, 529, 535, 536, 537, 538, 539, 540] (by decide +kernel) (by decide +kernel)
set_option maxRecDepth 20000 in
theorem gL_law_X2_pathMinimum : GoodIn wsL_law (wsV RL 73 RX2 yX2_pathMinimum wsX2_pathMinimum) := goodIn_app (goodIn_of _ (by decide +kernel)) ggL_law_X2_pathMinimum
set_option maxRecDepth 20000 in
theorem ggL_law_X3_pathMinimum : GoodIn wsL_law wsX3_pathMinimum := goodIn_r _ [342, 241, 242, 243, 5, 244, 123, 245, 126, 127, 128, 129, 71, 72, 73, 74, 46, 68, 69, 70, 138, 139, 140, 141, 130, 131, 132, 133, 134, 135, 136, 137, 311, 312, 313, 314, 310, 49, 246, 247, 248, 249, 212, 213, 214, 215, 343, 344, 345, 346, 331, 332, 333, 334, 530, 531, 532, 533, 534] (by decide +kernel) (by decide +kernel)
set_option maxRecDepth 20000 in
theorem gL_law_X3_pathMinimum : GoodIn wsL_law (wsV RL 76 RX3 yX3_pathMinimum wsX3_pathMinimum) := goodIn_app (goodIn_of _ (by decide +kernel)) ggL_law_X3_pathMinimum
set_option maxRecDepth 20000 in
theorem ggL_law_X2_pathMaximum : GoodIn wsL_law wsX2_pathMaximum := goodIn_r _ [350, 21, 15, 271, 272, 273, 2, 274, 228, 229, 230, 231, 79, 232, 82, 83, 84, 14, 85, 26, 95, 96, 97, 98, 99, 100, 101, 102, 90, 91, 92, 93, 28, 94, 103, 104, 105, 106, 275, 276, 277, 20, 278, 37, 279, 234, 235, 236, 280, 281, 282, 283, 284, 285, 286, 287, 36, 288, 289, 290, 291, 292, 293, 294, 295, 296, 297, 298, 299, 300, 319, 320, 321, 322, 302, 303, 304, 305, 323, 324, 325, 326, 29, 526, 527, 528, 529, 535, 536, 537, 538, 539, 540] (by decide +kernel) (by decide +kernel)
set_option maxRecDepth 20000 in
theorem gL_law_X2_pathMaximum : GoodIn wsL_law (wsV RL 77 RX2 yX2_pathMaximum wsX2_pathMaximum) := goodIn_app (goodIn_of _ (by decide +kernel)) ggL_law_X2_pathMaximum
set_option maxRecDepth 20000 in
theorem ggL_law_X3_pathMaximum : GoodIn wsL_law wsX3_pathMaximum := goodIn_r _ [354, 241, 242, 243, 5, 244, 123, 245, 126, 127, 128, 129, 71, 72, 73, 74, 46, 68, 69, 70, 138, 139, 140, 141, 130, 131, 132, 133, 134, 135, 136, 137, 311, 312, 313, 314, 310, 49, 246, 247, 248, 249, 212, 213, 214, 215, 343, 344, 345, 346, 331, 332, 333, 334, 530, 531, 532, 533, 534] (by decide +kernel) (by decide +kernel)
set_option maxRecDepth 20000 in
theorem gL_law_X3_pathMaximum : GoodIn wsL_law (wsV RL 80 RX3 yX3_pathMaximum wsX3_pathMaximum) := goodIn_app (goodIn_of _ (by decide +kernel)) ggL_law_X3_pathMaximum
set_option maxRecDepth 20000 in
theorem ggL_law_X2_reach : GoodIn wsL_law wsX2_reach := goodIn_r _ [358, 21, 15, 146, 271, 272, 273, 2, 274, 228, 229, 230, 231, 79, 232, 82, 83, 84, 14, 85, 26, 95, 96, 97, 98, 99, 100, 101, 102, 90, 91, 92, 93, 28, 94, 103, 104, 105, 106, 275, 276, 277, 20, 278, 37, 279, 234, 235, 236, 280, 281, 282, 283, 284, 285, 286, 287, 36, 288, 289, 290, 291, 292, 293, 294, 295, 296, 297, 298, 299, 300, 319, 320, 321, 322, 302, 303, 304, 305, 323, 324, 325, 326, 29, 526, 527, 528, 529, 535, 536, 537, 538, 539, 540] (by decide +kernel) (by decide +kernel)
set_option maxRecDepth 20000 in
theorem gL_law_X2_reach : GoodIn wsL_law (wsV RL 81 RX2 yX2_reach wsX2_reach) := goodIn_app (goodIn_of _ (by decide +kernel)) ggL_law_X2_reach
set_option maxRecDepth 20000 in
theorem ggL_law_X3_reach : GoodIn wsL_law wsX3_reach := goodIn_r _ [362, 310, 49, 152, 241, 242, 243, 5, 244, 123, 245, 126, 127, 128, 129, 71, 72, 73, 74, 46, 68, 69, 70, 138, 139, 140, 141, 130, 131, 132, 133, 134, 135, 136, 137, 311, 312, 313, 314, 246, 247, 248, 249, 212, 213, 214, 215, 331, 332, 333, 334, 530, 531, 532, 533, 534] (by decide +kernel) (by decide +kernel)
set_option maxRecDepth 20000 in
theorem gL_law_X3_reach : GoodIn wsL_law (wsV RL 84 RX3 yX3_reach wsX3_reach) := goodIn_app (goodIn_of _ (by decide +kernel)) ggL_law_X3_reach
set_option maxRecDepth 20000 in
theorem ggL_law_X2_addOnPath : GoodIn wsL_law wsX2_addOnPath := goodIn_r _ [366, 58, 21, 15, 367, 271, 272, 273, 2, 274, 228, 229, 230, 231, 79, 232, 82, 83, 84, 14, 85, 26, 95, 96, 97, 98, 99, 100, 101, 102, 90, 91, 92, 93, 28, 94, 103, 104, 105, 106, 275, 276, 277, 20, 278, 37, 279, 234, 235, 236, 280, 281, 282, 283, 284, 285, 286, 287, 36, 288, 289, 290, 291, 292, 293, 294, 295, 296, 297, 298, 299, 300, 368, 369, 370, 371, 372, 319, 320, 321, 322, 302, 303, 304, 305, 323, 324, 325, 326, 29, 373, 374, 375, 376, 526, 527, 528, 529, 535, 536, 537, 538, 539, 540] (by decide +kernel) (by decide +kernel)
set_option maxRecDepth 20000 in
theorem gL_law_X2_addOnPath : GoodIn wsL_law (wsV RL 85 RX2 yX2_addOnPath wsX2_addOnPath) := goodIn_app (goodIn_of _ (by decide +kernel)) ggL_law_X2_addOnPath
set_option maxRecDepth 20000 in
theorem ggL_law_X3_addOnPath : GoodIn wsL_law wsX3_addOnPath := goodIn_r _ [380, 67, 310, 49, 381, 46, 241, 242, 243, 5, 244, 123, 245, 126, 127, 128, 129, 71, 72, 73, 74, 68, 69, 70, 138, 139, 140, 141, 130, 131, 132, 133, 134, 135, 136, 137, 382, 383, 384, 385, 386, 311, 312, 313, 314, 246, 247, 248, 249, 212, 213, 214, 215, 331, 332, 333, 334, 530, 531, 532, 533, 534] (by decide +kernel) (by decide +kernel)
set_option maxRecDepth 20000 in
theorem gL_law_X3_addOnPath : GoodIn wsL_law (wsV RL 88 RX3 yX3_addOnPath wsX3_addOnPath) := goodIn_app (goodIn_of _ (by decide +kernel)) ggL_law_X3_addOnPath
set_option maxRecDepth 20000 in
theorem ggL_law_X2_setOnPath : GoodIn wsL_law wsX2_setOnPath := goodIn_r _ [390, 58, 21, 15, 271, 272, 273, 2, 274, 228, 229, 230, 231, 79, 232, 82, 83, 84, 14, 85, 26, 95, 96, 97, 98, 99, 100, 101, 102, 90, 91, 92, 93, 28, 94, 103, 104, 105, 106, 275, 276, 277, 20, 278, 37, 279, 234, 235, 236, 280, 281, 282, 283, 284, 285, 286, 287, 36, 288, 289, 290, 291, 292, 293, 294, 295, 296, 297, 298, 299, 300, 368, 369, 370, 371, 372, 319, 320, 321, 322, 302, 303, 304, 305, 373, 374, 375, 376, 29, 526, 527, 528, 529, 535, 536, 537, 538, 539, 540] (by decide +kernel) (by decide +kernel)
set_option maxRecDepth 20000 in
theorem gL_law_X2_setOnPath : GoodIn wsL_law (wsV RL 89 RX2 yX2_setOnPath wsX2_setOnPath) := goodIn_app (goodIn_of _ (by decide +kernel)) ggL_law_X2_setOnPath
set_option maxRecDepth 20000 in
theorem ggL_law_X3_setOnPath : GoodIn wsL_law wsX3_setOnPath := goodIn_r _ [394, 67, 310, 46, 49, 241, 242, 243, 5, 244, 123, 245, 126, 127, 128, 129, 71, 72, 73, 74, 68, 69, 70, 138, 139, 140, 141, 130, 131, 132, 133, 134, 135, 136, 137, 382, 383, 384, 385, 386, 311, 312, 313, 314, 246, 247, 248, 249, 212, 213, 214, 215, 530, 531, 532, 533, 534] (by decide +kernel) (by decide +kernel)
set_option maxRecDepth 20000 in
theorem gL_law_X3_setOnPath : GoodIn wsL_law (wsV RL 92 RX3 yX3_setOnPath wsX3_setOnPath) := goodIn_app (goodIn_of _ (by decide +kernel)) ggL_law_X3_setOnPath
set_option maxRecDepth 20000 in
theorem ggL_law_X2_reverseValues : GoodIn wsL_law wsX2_reverseValues := goodIn_r _ [398, 21, 15, 271, 272, 273, 2, 274, 228, 229, 230, 231, 79, 232, 82, 83, 84, 14, 85, 26, 95, 96, 97, 98, 99, 100, 101, 102, 90, 91, 92, 93, 28, 94, 103, 104, 105, 106, 275, 276, 277, 20, 278, 37, 279, 234, 235, 236, 280, 281, 282, 283, 284, 285, 286, 287, 36, 288, 289, 290, 291, 292, 293, 294, 295, 296, 297, 298, 299, 300, 319, 320, 321, 322, 302, 303, 304, 305, 399, 400, 401, 402, 403, 324, 325, 326, 29, 404, 374, 375, 376, 526, 527, 528, 529, 535, 536, 537, 538, 539, 540] (by decide +kernel) (by decide +kernel)
set_option maxRecDepth 20000 in
theorem gL_law_X2_reverseValues : GoodIn wsL_law (wsV RL 93 RX2 yX2_reverseValues wsX2_reverseValues) := goodIn_app (goodIn_of _ (by decide +kernel)) ggL_law_X2_reverseValues
set_option maxRecDepth 20000 in
theorem ggL_law_X3_reverseValues : GoodIn wsL_law wsX3_reverseValues := goodIn_r _ [408, 310, 49, 46, 241, 242, 243, 5, 244, 123, 245, 126, 127, 128, 129, 71, 72, 73, 74, 68, 69, 70, 138, 139, 140, 141, 130, 131, 132, 133, 134, 135, 136, 137, 311, 312, 313, 314, 246, 247, 248, 249, 212, 213, 214, 215, 331, 332, 333, 334, 530, 531, 532, 533, 534] (by decide +kernel) (by decide +kernel)
set_option maxRecDepth 20000 in
theorem gL_law_X3_reverseValues : GoodIn wsL_law (wsV RL 96 RX3 yX3_reverseValues wsX3_reverseValues) := goodIn_app (goodIn_of _ (by decide +kernel)) ggL_law_X3_reverseValues
set_option maxRecDepth 20000 in
theorem ggL_law_X2_subtreeSize : GoodIn wsL_law wsX2_subtreeSize := goodIn_r _ [412, 15, 79, 82, 83, 84, 14, 85, 26, 111, 112, 113, 114, 115, 116, 117, 118, 99, 100, 101, 102, 90, 91, 92, 93, 28, 94, 103, 104, 105, 106, 526, 527, 528, 529, 535, 536, 537, 538] (by decide +kernel) (by decide +kernel)
set_option maxRecDepth 20000 in
theorem gL_law_X2_subtreeSize : GoodIn wsL_law (wsV RL 97 RX2 yX2_subtreeSize wsX2_subtreeSize) := goodIn_app (goodIn_of _ (by decide +kernel)) ggL_law_X2_subtreeSize
set_option maxRecDepth 20000 in
theorem ggL_law_X3_subtreeSize : GoodIn wsL_law wsX3_subtreeSize := goodIn_r _ [416, 123, 126, 127, 128, 5, 129, 71, 72, 73, 74, 46, 68, 69, 70, 417, 418, 419, 420, 130, 131, 132, 133, 134, 135, 136, 137, 530, 531, 532, 533, 534] (by decide +kernel) (by decide +kernel)
set_option maxRecDepth 20000 in
theorem gL_law_X3_subtreeSize : GoodIn wsL_law (wsV RL 100 RX3 yX3_subtreeSize wsX3_subtreeSize) := goodIn_app (goodIn_of _ (by decide +kernel)) ggL_law_X3_subtreeSize
set_option maxRecDepth 20000 in
theorem ggL_law_X2_subtreeSum : GoodIn wsL_law wsX2_subtreeSum := goodIn_r _ [424, 15, 79, 82, 83, 84, 14, 85, 26, 59, 60, 61, 62, 425, 116, 117, 118, 99, 100, 101, 102, 90, 91, 92, 93, 28, 94, 103, 104, 105, 106, 323, 324, 325, 326, 29, 526, 527, 528, 529, 535, 536, 537, 538] (by decide +kernel) (by decide +kernel)
set_option maxRecDepth 20000 in
theorem gL_law_X2_subtreeSum : GoodIn wsL_law (wsV RL 101 RX2 yX2_subtreeSum wsX2_subtreeSum) := goodIn_app (goodIn_of _ (by decide +kernel)) ggL_law_X2_subtreeSum
set_option maxRecDepth 20000 in
theorem ggL_law_X3_subtreeSum : GoodIn wsL_law wsX3_subtreeSum := goodIn_r _ [429, 123, 126, 127, 128, 5, 129, 71, 72, 73, 74, 46, 68, 69, 70, 417, 418, 419, 420, 130, 131, 132, 133, 134, 135, 136, 137, 331, 332, 333, 334, 530, 531, 532, 533, 534] (by decide +kernel) (by decide +kernel)
set_option maxRecDepth 20000 in
theorem gL_law_X3_subtreeSum : GoodIn wsL_law (wsV RL 104 RX3 yX3_subtreeSum wsX3_subtreeSum) := goodIn_app (goodIn_of _ (by decide +kernel)) ggL_law_X3_subtreeSum
set_option maxRecDepth 20000 in
theorem ggL_law_X2_addInSubtree : GoodIn wsL_law wsX2_addInSubtree := goodIn_r _ [433, 15, 79, 58, 367, 82, 83, 84, 14, 85, 26, 368, 369, 2, 370, 371, 372, 59, 60, 61, 62, 425, 116, 117, 118, 99, 100, 101, 102, 90, 91, 92, 93, 28, 94, 103, 104, 105, 106, 323, 324, 325, 326, 29, 373, 374, 375, 376, 111, 112, 113, 114, 115, 526, 527, 528, 529, 535, 536, 537, 538] (by decide +kernel) (by decide +kernel)
set_option maxRecDepth 20000 in
theorem gL_law_X2_addInSubtree : GoodIn wsL_law (wsV RL 105 RX2 yX2_addInSubtree wsX2_addInSubtree) := goodIn_app (goodIn_of _ (by decide +kernel)) ggL_law_X2_addInSubtree
set_option maxRecDepth 20000 in
theorem ggL_law_X3_addInSubtree : GoodIn wsL_law wsX3_addInSubtree := goodIn_r _ [437, 123, 67, 381, 46, 126, 127, 128, 5, 129, 71, 72, 73, 74, 68, 69, 70, 382, 383, 384, 385, 386, 417, 418, 419, 420, 130, 131, 132, 133, 134, 135, 136, 137, 331, 332, 333, 334, 530, 531, 532, 533, 534] (by decide +kernel) (by decide +kernel)
set_option maxRecDepth 20000 in
theorem gL_law_X3_addInSubtree : GoodIn wsL_law (wsV RL 108 RX3 yX3_addInSubtree wsX3_addInSubtree) := goodIn_app (goodIn_of _ (by decide +kernel)) ggL_law_X3_addInSubtree
set_option maxRecDepth 20000 in
theorem ggL_law_X2_diameter : GoodIn wsL_law wsX2_diameter := goodIn_r _ [441, 15, 79, 82, 83, 84, 14, 85, 26, 442, 443, 444, 445, 446, 96, 97, 98, 99, 100, 101, 102, 90, 91, 92, 93, 28, 94, 103, 104, 105, 106, 447, 255, 256, 257, 258, 234, 235, 236, 254, 526, 527, 528, 529, 535, 536, 537, 538] (by decide +kernel) (by decide +kernel)
set_option maxRecDepth 20000 in
theorem gL_law_X2_diameter : GoodIn wsL_law (wsV RL 109 RX2 yX2_diameter wsX2_diameter) := goodIn_app (goodIn_of _ (by decide +kernel)) ggL_law_X2_diameter
set_option maxRecDepth 20000 in
theorem ggL_law_X3_diameter : GoodIn wsL_law wsX3_diameter := goodIn_r _ [451, 123, 126, 127, 128, 5, 129, 71, 72, 73, 74, 46, 68, 69, 70, 138, 139, 140, 141, 130, 131, 132, 133, 134, 135, 136, 137, 263, 264, 265, 266, 212, 213, 214, 215, 246, 247, 248, 249, 530, 531, 532, 533, 534] (by decide +kernel) (by decide +kernel)
set_option maxRecDepth 20000 in
theorem gL_law_X3_diameter : GoodIn wsL_law (wsV RL 112 RX3 yX3_diameter wsX3_diameter) := goodIn_app (goodIn_of _ (by decide +kernel)) ggL_law_X3_diameter
set_option maxRecDepth 20000 in
theorem ggL_law_X2_setValue : GoodIn wsL_law wsX2_setValue := goodIn_r _ [455, 15, 79, 58, 82, 83, 84, 14, 85, 26, 368, 369, 2, 370, 371, 372, 323, 324, 325, 326, 29, 94, 373, 374, 375, 376, 526, 527, 528, 529, 535, 536, 537, 538] (by decide +kernel) (by decide +kernel)
set_option maxRecDepth 20000 in
theorem gL_law_X2_setValue : GoodIn wsL_law (wsV RL 113 RX2 yX2_setValue wsX2_setValue) := goodIn_app (goodIn_of _ (by decide +kernel)) ggL_law_X2_setValue
set_option maxRecDepth 20000 in
theorem ggL_law_X3_setValue : GoodIn wsL_law wsX3_setValue := goodIn_r _ [459, 123, 67, 46, 126, 127, 128, 5, 129, 71, 72, 73, 74, 68, 69, 70, 382, 383, 384, 385, 386, 331, 332, 333, 334, 530, 531, 532, 533, 534] (by decide +kernel) (by decide +kernel)
set_option maxRecDepth 20000 in
theorem gL_law_X3_setValue : GoodIn wsL_law (wsV RL 116 RX3 yX3_setValue wsX3_setValue) := goodIn_app (goodIn_of _ (by decide +kernel)) ggL_law_X3_setValue
set_option maxRecDepth 20000 in
theorem ggL_law_X2_value : GoodIn wsL_law wsX2_value := goodIn_r _ [463, 15, 79, 82, 83, 84, 14, 85, 26, 323, 324, 325, 326, 29, 94, 526, 527, 528, 529, 535, 536, 537, 538] (by decide +kernel) (by decide +kernel)
set_option maxRecDepth 20000 in
theorem gL_law_X2_value : GoodIn wsL_law (wsV RL 117 RX2 yX2_value wsX2_value) := goodIn_app (goodIn_of _ (by decide +kernel)) ggL_law_X2_value
set_option maxRecDepth 20000 in
theorem ggL_law_X3_value : GoodIn wsL_law wsX3_value := goodIn_r _ [467, 123, 126, 127, 128, 5, 129, 71, 72, 73, 74, 46, 68, 69, 70, 331, 332, 333, 334, 530, 531, 532, 533, 534] (by decide +kernel) (by decide +kernel)
set_option maxRecDepth 20000 in
theorem gL_law_X3_value : GoodIn wsL_law (wsV RL 120 RX3 yX3_value wsX3_value) := goodIn_app (goodIn_of _ (by decide +kernel)) ggL_law_X3_value
set_option maxRecDepth 20000 in
theorem ggL_law_X2_setMark : GoodIn wsL_law wsX2_setMark := goodIn_r _ [471, 15, 79, 82, 83, 84, 14, 85, 26, 472, 473, 474, 475, 31, 94, 476, 477, 478, 479, 526, 527, 528, 529, 535, 536, 537, 538] (by decide +kernel) (by decide +kernel)
set_option maxRecDepth 20000 in
theorem gL_law_X2_setMark : GoodIn wsL_law (wsV RL 121 RX2 yX2_setMark wsX2_setMark) := goodIn_app (goodIn_of _ (by decide +kernel)) ggL_law_X2_setMark
set_option maxRecDepth 20000 in
theorem ggL_law_X3_setMark : GoodIn wsL_law wsX3_setMark := goodIn_r _ [483, 123, 46, 126, 127, 128, 5, 129, 71, 72, 73, 74, 68, 69, 70, 530, 531, 532, 533, 534] (by decide +kernel) (by decide +kernel)
set_option maxRecDepth 20000 in
theorem gL_law_X3_setMark : GoodIn wsL_law (wsV RL 125 RX3 yX3_setMark wsX3_setMark) := goodIn_app (goodIn_of _ (by decide +kernel)) ggL_law_X3_setMark
set_option maxRecDepth 20000 in
theorem ggL_law_X2_nearestMarked : GoodIn wsL_law wsX2_nearestMarked := goodIn_r _ [487, 15, 79, 146, 82, 83, 84, 14, 85, 26, 488, 489, 490, 491, 446, 96, 97, 98, 99, 100, 101, 102, 90, 91, 92, 93, 28, 94, 103, 104, 105, 106, 492, 473, 474, 475, 31, 447, 255, 256, 257, 258, 234, 235, 236, 526, 527, 528, 529, 535, 536, 537, 538] (by decide +kernel) (by decide +kernel)
set_option maxRecDepth 20000 in
theorem gL_law_X2_nearestMarked : GoodIn wsL_law (wsV RL 126 RX2 yX2_nearestMarked wsX2_nearestMarked) := goodIn_app (goodIn_of _ (by decide +kernel)) ggL_law_X2_nearestMarked
set_option maxRecDepth 20000 in
theorem ggL_law_X3_nearestMarked : GoodIn wsL_law wsX3_nearestMarked := goodIn_r _ [496, 123, 152, 46, 126, 127, 128, 5, 129, 71, 72, 73, 74, 68, 69, 70, 138, 139, 140, 141, 130, 131, 132, 133, 134, 135, 136, 137, 263, 264, 265, 266, 212, 213, 214, 215, 246, 247, 248, 249, 530, 531, 532, 533, 534] (by decide +kernel) (by decide +kernel)
set_option maxRecDepth 20000 in
theorem gL_law_X3_nearestMarked : GoodIn wsL_law (wsV RL 129 RX3 yX3_nearestMarked wsX3_nearestMarked) := goodIn_app (goodIn_of _ (by decide +kernel)) ggL_law_X3_nearestMarked
set_option maxRecDepth 20000 in
theorem ggL_law_X2_save : GoodIn wsL_law wsX2_save := goodIn_r _ [500, 58, 15, 501, 502, 2, 503, 504, 505, 506, 507, 16, 17, 508, 509, 510, 14, 511, 26, 28, 29, 31, 59, 60, 61, 62, 526, 527, 528, 529, 535, 536, 537, 538] (by decide +kernel) (by decide +kernel)
set_option maxRecDepth 20000 in
theorem gL_law_X2_save : GoodIn wsL_law (wsV RL 130 RX2 yX2_save wsX2_save) := goodIn_app (goodIn_of _ (by decide +kernel)) ggL_law_X2_save
set_option maxRecDepth 20000 in
theorem ggL_law_X3_save : GoodIn wsL_law wsX3_save := goodIn_r _ [515, 67, 47, 46, 48, 68, 69, 5, 70, 71, 72, 73, 74, 530, 531, 532, 533, 534] (by decide +kernel) (by decide +kernel)
set_option maxRecDepth 20000 in
theorem gL_law_X3_save : GoodIn wsL_law (wsV RL 133 RX3 yX3_save wsX3_save) := goodIn_app (goodIn_of _ (by decide +kernel)) ggL_law_X3_save
set_option maxRecDepth 20000 in
theorem ggL_law_X2_restore : GoodIn wsL_law wsX2_restore := goodIn_r _ [519, 58, 520, 15, 501, 502, 2, 503, 504, 505, 506, 507, 16, 17, 59, 60, 61, 14, 62, 26, 508, 509, 510, 511, 28, 29, 31, 526, 527, 528, 529, 535, 536, 537, 538] (by decide +kernel) (by decide +kernel)
set_option maxRecDepth 20000 in
theorem gL_law_X2_restore : GoodIn wsL_law (wsV RL 134 RX2 yX2_restore wsX2_restore) := goodIn_app (goodIn_of _ (by decide +kernel)) ggL_law_X2_restore
set_option maxRecDepth 20000 in
theorem ggL_law_X3_restore : GoodIn wsL_law wsX3_restore := goodIn_r _ [524, 67, 48, 525, 46, 47, 68, 69, 5, 70, 71, 72, 73, 74, 530, 531, 532, 533, 534] (by decide +kernel) (by decide +kernel)
set_option maxRecDepth 20000 in
theorem gL_law_X3_restore : GoodIn wsL_law (wsV RL 137 RX3 yX3_restore wsX3_restore) := goodIn_app (goodIn_of _ (by decide +kernel)) ggL_law_X3_restore
