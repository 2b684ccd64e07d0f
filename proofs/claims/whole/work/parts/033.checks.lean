theorem q_ck0 : q_ck 0 = true := by decide +kernel
theorem q_ck1 : q_ck 1 = true := by decide +kernel
theorem q_ck2 : q_ck 2 = true := by decide +kernel
theorem q_ck3 : q_ck 3 = true := by decide +kernel
theorem q_ck4 : q_ck 4 = true := by decide +kernel
theorem q_ck5 : q_ck 5 = true := by decide +kernel
theorem q_ck6 : q_ck 6 = true := by decide +kernel
theorem q_ck7 : q_ck 7 = true := by decide +kernel
theorem q_ck8 : q_ck 8 = true := by decide +kernel
theorem q_ck9 : q_ck 9 = true := by decide +kernel
theorem q_ck10 : q_ck 10 = true := by decide +kernel
theorem q_ck11 : q_ck 11 = true := by decide +kernel
theorem q_ck12 : q_ck 12 = true := by decide +kernel
theorem q_ck13 : q_ck 13 = true := by decide +kernel
theorem q_ck14 : q_ck 14 = true := by decide +kernel
theorem q_ck15 : q_ck 15 = true := by decide +kernel
theorem q_ck16 : q_ck 16 = true := by decide +kernel
theorem q_ck17 : q_ck 17 = true := by decide +kernel
theorem q_ck18 : q_ck 18 = true := by decide +kernel
theorem q_ck19 : q_ck 19 = true := by decide +kernel
theorem q_ck20 : q_ck 20 = true := by decide +kernel
theorem q_ck21 : q_ck 21 = true := by decide +kernel
theorem q_ck22 : q_ck 22 = true := by decide +kernel
theorem q_ck23 : q_ck 23 = true := by decide +kernel
theorem q_ck24 : q_ck 24 = true := by decide +kernel
theorem q_ck25 : q_ck 25 = true := by decide +kernel
theorem q_ck26 : q_ck 26 = true := by decide +kernel
theorem q_ck27 : q_ck 27 = true := by decide +kernel
theorem q_ck28 : q_ck 28 = true := by decide +kernel
theorem q_ck29 : q_ck 29 = true := by decide +kernel
theorem q_ck30 : q_ck 30 = true := by decide +kernel
theorem q_ck31 : q_ck 31 = true := by decide +kernel
theorem q_ck32 : q_ck 32 = true := by decide +kernel
theorem q_ck33 : q_ck 33 = true := by decide +kernel
theorem q_ck34 : q_ck 34 = true := by decide +kernel
theorem q_ck35 : q_ck 35 = true := by decide +kernel
theorem q_ck36 : q_ck 36 = true := by decide +kernel
theorem q_ck37 : q_ck 37 = true := by decide +kernel
theorem q_ck38 : q_ck 38 = true := by decide +kernel
theorem q_ck39 : q_ck 39 = true := by decide +kernel
theorem q_ck40 : q_ck 40 = true := by decide +kernel
theorem q_ck41 : q_ck 41 = true := by decide +kernel
theorem q_ck42 : q_ck 42 = true := by decide +kernel
theorem q_ck43 : q_ck 43 = true := by decide +kernel
theorem q_ck44 : q_ck 44 = true := by decide +kernel
theorem q_ck45 : q_ck 45 = true := by decide +kernel
theorem q_ck46 : q_ck 46 = true := by decide +kernel
theorem q_ck47 : q_ck 47 = true := by decide +kernel
theorem q_ck48 : q_ck 48 = true := by decide +kernel
theorem q_ck49 : q_ck 49 = true := by decide +kernel
theorem q_ck50 : q_ck 50 = true := by decide +kernel
theorem q_ck51 : q_ck 51 = true := by decide +kernel
theorem q_ck52 : q_ck 52 = true := by decide +kernel
theorem q_ck53 : q_ck 53 = true := by decide +kernel
theorem q_ck54 : q_ck 54 = true := by decide +kernel
theorem q_ck55 : q_ck 55 = true := by decide +kernel
theorem q_ck56 : q_ck 56 = true := by decide +kernel
theorem q_ck57 : q_ck 57 = true := by decide +kernel
theorem q_ck58 : q_ck 58 = true := by decide +kernel
theorem q_ck59 : q_ck 59 = true := by decide +kernel
theorem q_ck60 : q_ck 60 = true := by decide +kernel
theorem q_ck61 : q_ck 61 = true := by decide +kernel
theorem q_ck62 : q_ck 62 = true := by decide +kernel
theorem q_ck63 : q_ck 63 = true := by decide +kernel
theorem q_ck64 : q_ck 64 = true := by decide +kernel
theorem q_ck65 : q_ck 65 = true := by decide +kernel
theorem q_ck66 : q_ck 66 = true := by decide +kernel
theorem q_ck67 : q_ck 67 = true := by decide +kernel
theorem q_ck68 : q_ck 68 = true := by decide +kernel
theorem q_ck69 : q_ck 69 = true := by decide +kernel
theorem q_ck70 : q_ck 70 = true := by decide +kernel
theorem q_ck71 : q_ck 71 = true := by decide +kernel
theorem q_ck72 : q_ck 72 = true := by decide +kernel
theorem q_ck73 : q_ck 73 = true := by decide +kernel
theorem q_ck74 : q_ck 74 = true := by decide +kernel
theorem q_ck75 : q_ck 75 = true := by decide +kernel
theorem q_ck76 : q_ck 76 = true := by decide +kernel
theorem q_ck77 : q_ck 77 = true := by decide +kernel
theorem q_ck78 : q_ck 78 = true := by decide +kernel
theorem q_ck79 : q_ck 79 = true := by decide +kernel
theorem q_ck80 : q_ck 80 = true := by decide +kernel
theorem q_ck81 : q_ck 81 = true := by decide +kernel
theorem q_ck82 : q_ck 82 = true := by decide +kernel
theorem q_ck83 : q_ck 83 = true := by decide +kernel
theorem q_ck84 : q_ck 84 = true := by decide +kernel
theorem q_ck85 : q_ck 85 = true := by decide +kernel
theorem q_ck86 : q_ck 86 = true := by decide +kernel
theorem q_ck87 : q_ck 87 = true := by decide +kernel
theorem q_ck88 : q_ck 88 = true := by decide +kernel
theorem q_ck89 : q_ck 89 = true := by decide +kernel
theorem q_ck90 : q_ck 90 = true := by decide +kernel
theorem q_ck91 : q_ck 91 = true := by decide +kernel
theorem q_ck92 : q_ck 92 = true := by decide +kernel
theorem q_ck93 : q_ck 93 = true := by decide +kernel
theorem q_ck94 : q_ck 94 = true := by decide +kernel
theorem q_ck95 : q_ck 95 = true := by decide +kernel
theorem q_ck96 : q_ck 96 = true := by decide +kernel
theorem q_ck97 : q_ck 97 = true := by decide +kernel
theorem q_ck98 : q_ck 98 = true := by decide +kernel
theorem q_ck99 : q_ck 99 = true := by decide +kernel
theorem q_ck100 : q_ck 100 = true := by decide +kernel
theorem q_ck101 : q_ck 101 = true := by decide +kernel
theorem q_ck102 : q_ck 102 = true := by decide +kernel
theorem q_ck103 : q_ck 103 = true := by decide +kernel
theorem q_ck104 : q_ck 104 = true := by decide +kernel
theorem q_ck105 : q_ck 105 = true := by decide +kernel
theorem q_ck106 : q_ck 106 = true := by decide +kernel
theorem q_ck107 : q_ck 107 = true := by decide +kernel
theorem q_ck108 : q_ck 108 = true := by decide +kernel
theorem q_ck109 : q_ck 109 = true := by decide +kernel
theorem q_ck110 : q_ck 110 = true := by decide +kernel
theorem q_ck111 : q_ck 111 = true := by decide +kernel
theorem q_ck112 : q_ck 112 = true := by decide +kernel
theorem q_ck113 : q_ck 113 = true := by decide +kernel
theorem q_ck114 : q_ck 114 = true := by decide +kernel
def q_tt115_0 : List (Nat × q_I) := [(0, .aload_n 0, 0, 0), (1, .invokespecial 1, 9999, 0), (4, .aload_n 0, 0, 0), (5, .bipush 6, 0, 0), (7, .newarray .int, 0, 0), (9, .putfield 7, 8, 1), (12, .aload_n 0, 0, 0), (13, .bipush 6, 0, 0), (15, .newarray .int, 0, 0), (17, .putfield 13, 8, 2), (20, .aload_n 0, 0, 0), (21, .bipush 18, 0, 0), (23, .newarray .int, 0, 0), (25, .putfield 16, 8, 3), (28, .aload_n 0, 0, 0), (29, .bipush 36, 0, 0), (31, .newarray .int, 0, 0), (33, .putfield 19, 8, 4), (36, .aload_n 0, 0, 0), (37, .sipush 160, 0, 0), (40, .newarray .int, 0, 0), (42, .putfield 22, 8, 6), (45, .aload_n 0, 0, 0), (46, .sipush 1200, 0, 0), (49, .newarray .int, 0, 0)]
theorem q_ck115_0 : q_ckL 115 q_tt115_0 = true := by decide +kernel
def q_tt115_1 : List (Nat × q_I) := [(51, .putfield 25, 8, 8), (54, .aload_n 0, 0, 0), (55, .bipush 24, 0, 0), (57, .newarray .int, 0, 0), (59, .putfield 28, 8, 9), (62, .aload_n 0, 0, 0), (63, .bipush 54, 0, 0), (65, .newarray .int, 0, 0), (67, .putfield 31, 8, 16), (70, .aload_n 0, 0, 0), (71, .iconst 4, 0, 0), (72, .newarray .int, 0, 0), (74, .dup, 0, 0), (75, .iconst 0, 0, 0), (76, .iconst (-1), 0, 0), (77, .iastore, 0, 0), (78, .dup, 0, 0), (79, .iconst 1, 0, 0), (80, .iconst (-1), 0, 0), (81, .iastore, 0, 0), (82, .dup, 0, 0), (83, .iconst 2, 0, 0), (84, .iconst (-1), 0, 0), (85, .iastore, 0, 0), (86, .dup, 0, 0)]
theorem q_ck115_1 : q_ckL 115 q_tt115_1 = true := by decide +kernel
def q_tt115_2 : List (Nat × q_I) := [(87, .iconst 3, 0, 0), (88, .iconst (-1), 0, 0), (89, .iastore, 0, 0), (90, .putfield 34, 8, 17), (93, .aload_n 0, 0, 0), (94, .iconst 4, 0, 0), (95, .newarray .int, 0, 0), (97, .putfield 37, 8, 18), (100, .aload_n 0, 0, 0), (101, .sipush 160, 0, 0), (104, .newarray .int, 0, 0), (106, .putfield 40, 8, 19), (109, .aload_n 0, 0, 0), (110, .bipush 41, 0, 0), (112, .newarray .int, 0, 0), (114, .dup, 0, 0), (115, .iconst 0, 0, 0), (116, .bipush 112, 0, 0), (118, .iastore, 0, 0), (119, .dup, 0, 0), (120, .iconst 1, 0, 0), (121, .bipush 108, 0, 0), (123, .iastore, 0, 0), (124, .dup, 0, 0), (125, .iconst 2, 0, 0)]
theorem q_ck115_2 : q_ckL 115 q_tt115_2 = true := by decide +kernel
def q_tt115_3 : List (Nat × q_I) := [(126, .bipush 97, 0, 0), (128, .iastore, 0, 0), (129, .dup, 0, 0), (130, .iconst 3, 0, 0), (131, .bipush 121, 0, 0), (133, .iastore, 0, 0), (134, .dup, 0, 0), (135, .iconst 4, 0, 0), (136, .bipush 115, 0, 0), (138, .iastore, 0, 0), (139, .dup, 0, 0), (140, .iconst 5, 0, 0), (141, .bipush 32, 0, 0), (143, .iastore, 0, 0), (144, .dup, 0, 0), (145, .bipush 6, 0, 0), (147, .bipush 54, 0, 0), (149, .iastore, 0, 0), (150, .dup, 0, 0), (151, .bipush 7, 0, 0), (153, .bipush 48, 0, 0), (155, .iastore, 0, 0), (156, .dup, 0, 0), (157, .bipush 8, 0, 0), (159, .bipush 32, 0, 0)]
theorem q_ck115_3 : q_ckL 115 q_tt115_3 = true := by decide +kernel
def q_tt115_4 : List (Nat × q_I) := [(161, .iastore, 0, 0), (162, .dup, 0, 0), (163, .bipush 9, 0, 0), (165, .bipush 43, 0, 0), (167, .iastore, 0, 0), (168, .dup, 0, 0), (169, .bipush 10, 0, 0), (171, .bipush 32, 0, 0), (173, .iastore, 0, 0), (174, .dup, 0, 0), (175, .bipush 11, 0, 0), (177, .bipush 109, 0, 0), (179, .iastore, 0, 0), (180, .dup, 0, 0), (181, .bipush 12, 0, 0), (183, .bipush 111, 0, 0), (185, .iastore, 0, 0), (186, .dup, 0, 0), (187, .bipush 13, 0, 0), (189, .bipush 114, 0, 0), (191, .iastore, 0, 0), (192, .dup, 0, 0), (193, .bipush 14, 0, 0), (195, .bipush 101, 0, 0), (197, .iastore, 0, 0)]
theorem q_ck115_4 : q_ckL 115 q_tt115_4 = true := by decide +kernel
def q_tt115_5 : List (Nat × q_I) := [(198, .dup, 0, 0), (199, .bipush 15, 0, 0), (201, .bipush 32, 0, 0), (203, .iastore, 0, 0), (204, .dup, 0, 0), (205, .bipush 16, 0, 0), (207, .bipush 42, 0, 0), (209, .iastore, 0, 0), (210, .dup, 0, 0), (211, .bipush 17, 0, 0), (213, .bipush 32, 0, 0), (215, .iastore, 0, 0), (216, .dup, 0, 0), (217, .bipush 18, 0, 0), (219, .bipush 51, 0, 0), (221, .iastore, 0, 0), (222, .dup, 0, 0), (223, .bipush 19, 0, 0), (225, .bipush 32, 0, 0), (227, .iastore, 0, 0), (228, .dup, 0, 0), (229, .bipush 20, 0, 0), (231, .bipush 59, 0, 0), (233, .iastore, 0, 0), (234, .dup, 0, 0)]
theorem q_ck115_5 : q_ckL 115 q_tt115_5 = true := by decide +kernel
def q_tt115_6 : List (Nat × q_I) := [(235, .bipush 21, 0, 0), (237, .bipush 32, 0, 0), (239, .iastore, 0, 0), (240, .dup, 0, 0), (241, .bipush 22, 0, 0), (243, .bipush 99, 0, 0), (245, .iastore, 0, 0), (246, .dup, 0, 0), (247, .bipush 23, 0, 0), (249, .bipush 111, 0, 0), (251, .iastore, 0, 0), (252, .dup, 0, 0), (253, .bipush 24, 0, 0), (255, .bipush 115, 0, 0), (257, .iastore, 0, 0), (258, .dup, 0, 0), (259, .bipush 25, 0, 0), (261, .bipush 116, 0, 0), (263, .iastore, 0, 0), (264, .dup, 0, 0), (265, .bipush 26, 0, 0), (267, .bipush 115, 0, 0), (269, .iastore, 0, 0), (270, .dup, 0, 0), (271, .bipush 27, 0, 0)]
theorem q_ck115_6 : q_ckL 115 q_tt115_6 = true := by decide +kernel
def q_tt115_7 : List (Nat × q_I) := [(273, .bipush 32, 0, 0), (275, .iastore, 0, 0), (276, .dup, 0, 0), (277, .bipush 28, 0, 0), (279, .bipush 49, 0, 0), (281, .iastore, 0, 0), (282, .dup, 0, 0), (283, .bipush 29, 0, 0), (285, .bipush 48, 0, 0), (287, .iastore, 0, 0), (288, .dup, 0, 0), (289, .bipush 30, 0, 0), (291, .bipush 32, 0, 0), (293, .iastore, 0, 0), (294, .dup, 0, 0), (295, .bipush 31, 0, 0), (297, .bipush 59, 0, 0), (299, .iastore, 0, 0), (300, .dup, 0, 0), (301, .bipush 32, 0, 0), (303, .bipush 32, 0, 0), (305, .iastore, 0, 0), (306, .dup, 0, 0), (307, .bipush 33, 0, 0), (309, .bipush 111, 0, 0)]
theorem q_ck115_7 : q_ckL 115 q_tt115_7 = true := by decide +kernel
def q_tt115_8 : List (Nat × q_I) := [(311, .iastore, 0, 0), (312, .dup, 0, 0), (313, .bipush 34, 0, 0), (315, .bipush 119, 0, 0), (317, .iastore, 0, 0), (318, .dup, 0, 0), (319, .bipush 35, 0, 0), (321, .bipush 101, 0, 0), (323, .iastore, 0, 0), (324, .dup, 0, 0), (325, .bipush 36, 0, 0), (327, .bipush 115, 0, 0), (329, .iastore, 0, 0), (330, .dup, 0, 0), (331, .bipush 37, 0, 0), (333, .bipush 32, 0, 0), (335, .iastore, 0, 0), (336, .dup, 0, 0), (337, .bipush 38, 0, 0), (339, .bipush 53, 0, 0), (341, .iastore, 0, 0), (342, .dup, 0, 0), (343, .bipush 39, 0, 0), (345, .bipush 32, 0, 0), (347, .iastore, 0, 0)]
theorem q_ck115_8 : q_ckL 115 q_tt115_8 = true := by decide +kernel
def q_tt115_9 : List (Nat × q_I) := [(348, .dup, 0, 0), (349, .bipush 40, 0, 0), (351, .bipush 59, 0, 0), (353, .iastore, 0, 0), (354, .putfield 43, 8, 20), (357, .aload_n 0, 0, 0), (358, .bipush 96, 0, 0), (360, .newarray .int, 0, 0), (362, .dup, 0, 0), (363, .iconst 0, 0, 0), (364, .bipush 112, 0, 0), (366, .iastore, 0, 0), (367, .dup, 0, 0), (368, .iconst 1, 0, 0), (369, .bipush 108, 0, 0), (371, .iastore, 0, 0), (372, .dup, 0, 0), (373, .iconst 2, 0, 0), (374, .bipush 97, 0, 0), (376, .iastore, 0, 0), (377, .dup, 0, 0), (378, .iconst 3, 0, 0), (379, .bipush 121, 0, 0), (381, .iastore, 0, 0), (382, .dup, 0, 0)]
theorem q_ck115_9 : q_ckL 115 q_tt115_9 = true := by decide +kernel
def q_tt115_10 : List (Nat × q_I) := [(383, .iconst 4, 0, 0), (384, .bipush 115, 0, 0), (386, .iastore, 0, 0), (387, .dup, 0, 0), (388, .iconst 5, 0, 0), (389, .bipush 32, 0, 0), (391, .iastore, 0, 0), (392, .dup, 0, 0), (393, .bipush 6, 0, 0), (395, .bipush 32, 0, 0), (397, .iastore, 0, 0), (398, .dup, 0, 0), (399, .bipush 7, 0, 0), (401, .bipush 32, 0, 0), (403, .iastore, 0, 0), (404, .dup, 0, 0), (405, .bipush 8, 0, 0), (407, .bipush 99, 0, 0), (409, .iastore, 0, 0), (410, .dup, 0, 0), (411, .bipush 9, 0, 0), (413, .bipush 111, 0, 0), (415, .iastore, 0, 0), (416, .dup, 0, 0), (417, .bipush 10, 0, 0)]
theorem q_ck115_10 : q_ckL 115 q_tt115_10 = true := by decide +kernel
def q_tt115_11 : List (Nat × q_I) := [(419, .bipush 115, 0, 0), (421, .iastore, 0, 0), (422, .dup, 0, 0), (423, .bipush 11, 0, 0), (425, .bipush 116, 0, 0), (427, .iastore, 0, 0), (428, .dup, 0, 0), (429, .bipush 12, 0, 0), (431, .bipush 115, 0, 0), (433, .iastore, 0, 0), (434, .dup, 0, 0), (435, .bipush 13, 0, 0), (437, .bipush 32, 0, 0), (439, .iastore, 0, 0), (440, .dup, 0, 0), (441, .bipush 14, 0, 0), (443, .bipush 32, 0, 0), (445, .iastore, 0, 0), (446, .dup, 0, 0), (447, .bipush 15, 0, 0), (449, .bipush 32, 0, 0), (451, .iastore, 0, 0), (452, .dup, 0, 0), (453, .bipush 16, 0, 0), (455, .bipush 111, 0, 0)]
theorem q_ck115_11 : q_ckL 115 q_tt115_11 = true := by decide +kernel
def q_tt115_12 : List (Nat × q_I) := [(457, .iastore, 0, 0), (458, .dup, 0, 0), (459, .bipush 17, 0, 0), (461, .bipush 119, 0, 0), (463, .iastore, 0, 0), (464, .dup, 0, 0), (465, .bipush 18, 0, 0), (467, .bipush 101, 0, 0), (469, .iastore, 0, 0), (470, .dup, 0, 0), (471, .bipush 19, 0, 0), (473, .bipush 115, 0, 0), (475, .iastore, 0, 0), (476, .dup, 0, 0), (477, .bipush 20, 0, 0), (479, .bipush 32, 0, 0), (481, .iastore, 0, 0), (482, .dup, 0, 0), (483, .bipush 21, 0, 0), (485, .bipush 32, 0, 0), (487, .iastore, 0, 0), (488, .dup, 0, 0), (489, .bipush 22, 0, 0), (491, .bipush 32, 0, 0), (493, .iastore, 0, 0)]
theorem q_ck115_12 : q_ckL 115 q_tt115_12 = true := by decide +kernel
def q_tt115_13 : List (Nat × q_I) := [(494, .dup, 0, 0), (495, .bipush 23, 0, 0), (497, .bipush 32, 0, 0), (499, .iastore, 0, 0), (500, .dup, 0, 0), (501, .bipush 24, 0, 0), (503, .bipush 109, 0, 0), (505, .iastore, 0, 0), (506, .dup, 0, 0), (507, .bipush 25, 0, 0), (509, .bipush 111, 0, 0), (511, .iastore, 0, 0), (512, .dup, 0, 0), (513, .bipush 26, 0, 0), (515, .bipush 114, 0, 0), (517, .iastore, 0, 0), (518, .dup, 0, 0), (519, .bipush 27, 0, 0), (521, .bipush 101, 0, 0), (523, .iastore, 0, 0), (524, .dup, 0, 0), (525, .bipush 28, 0, 0), (527, .bipush 32, 0, 0), (529, .iastore, 0, 0), (530, .dup, 0, 0)]
theorem q_ck115_13 : q_ckL 115 q_tt115_13 = true := by decide +kernel
def q_tt115_14 : List (Nat × q_I) := [(531, .bipush 29, 0, 0), (533, .bipush 32, 0, 0), (535, .iastore, 0, 0), (536, .dup, 0, 0), (537, .bipush 30, 0, 0), (539, .bipush 32, 0, 0), (541, .iastore, 0, 0), (542, .dup, 0, 0), (543, .bipush 31, 0, 0), (545, .bipush 32, 0, 0), (547, .iastore, 0, 0), (548, .dup, 0, 0), (549, .bipush 32, 0, 0), (551, .bipush 97, 0, 0), (553, .iastore, 0, 0), (554, .dup, 0, 0), (555, .bipush 33, 0, 0), (557, .bipush 112, 0, 0), (559, .iastore, 0, 0), (560, .dup, 0, 0), (561, .bipush 34, 0, 0), (563, .bipush 97, 0, 0), (565, .iastore, 0, 0), (566, .dup, 0, 0), (567, .bipush 35, 0, 0)]
theorem q_ck115_14 : q_ckL 115 q_tt115_14 = true := by decide +kernel
def q_tt115_15 : List (Nat × q_I) := [(569, .bipush 114, 0, 0), (571, .iastore, 0, 0), (572, .dup, 0, 0), (573, .bipush 36, 0, 0), (575, .bipush 116, 0, 0), (577, .iastore, 0, 0), (578, .dup, 0, 0), (579, .bipush 37, 0, 0), (581, .bipush 32, 0, 0), (583, .iastore, 0, 0), (584, .dup, 0, 0), (585, .bipush 38, 0, 0), (587, .bipush 32, 0, 0), (589, .iastore, 0, 0), (590, .dup, 0, 0), (591, .bipush 39, 0, 0), (593, .bipush 32, 0, 0), (595, .iastore, 0, 0), (596, .dup, 0, 0), (597, .bipush 40, 0, 0), (599, .bipush 109, 0, 0), (601, .iastore, 0, 0), (602, .dup, 0, 0), (603, .bipush 41, 0, 0), (605, .bipush 97, 0, 0)]
theorem q_ck115_15 : q_ckL 115 q_tt115_15 = true := by decide +kernel
def q_tt115_16 : List (Nat × q_I) := [(607, .iastore, 0, 0), (608, .dup, 0, 0), (609, .bipush 42, 0, 0), (611, .bipush 116, 0, 0), (613, .iastore, 0, 0), (614, .dup, 0, 0), (615, .bipush 43, 0, 0), (617, .bipush 116, 0, 0), (619, .iastore, 0, 0), (620, .dup, 0, 0), (621, .bipush 44, 0, 0), (623, .bipush 101, 0, 0), (625, .iastore, 0, 0), (626, .dup, 0, 0), (627, .bipush 45, 0, 0), (629, .bipush 114, 0, 0), (631, .iastore, 0, 0), (632, .dup, 0, 0), (633, .bipush 46, 0, 0), (635, .bipush 32, 0, 0), (637, .iastore, 0, 0), (638, .dup, 0, 0), (639, .bipush 47, 0, 0), (641, .bipush 32, 0, 0), (643, .iastore, 0, 0)]
theorem q_ck115_16 : q_ckL 115 q_tt115_16 = true := by decide +kernel
def q_tt115_17 : List (Nat × q_I) := [(644, .dup, 0, 0), (645, .bipush 48, 0, 0), (647, .bipush 110, 0, 0), (649, .iastore, 0, 0), (650, .dup, 0, 0), (651, .bipush 49, 0, 0), (653, .bipush 105, 0, 0), (655, .iastore, 0, 0), (656, .dup, 0, 0), (657, .bipush 50, 0, 0), (659, .bipush 103, 0, 0), (661, .iastore, 0, 0), (662, .dup, 0, 0), (663, .bipush 51, 0, 0), (665, .bipush 104, 0, 0), (667, .iastore, 0, 0), (668, .dup, 0, 0), (669, .bipush 52, 0, 0), (671, .bipush 116, 0, 0), (673, .iastore, 0, 0), (674, .dup, 0, 0), (675, .bipush 53, 0, 0), (677, .bipush 32, 0, 0), (679, .iastore, 0, 0), (680, .dup, 0, 0)]
theorem q_ck115_17 : q_ckL 115 q_tt115_17 = true := by decide +kernel
def q_tt115_18 : List (Nat × q_I) := [(681, .bipush 54, 0, 0), (683, .bipush 32, 0, 0), (685, .iastore, 0, 0), (686, .dup, 0, 0), (687, .bipush 55, 0, 0), (689, .bipush 32, 0, 0), (691, .iastore, 0, 0), (692, .dup, 0, 0), (693, .bipush 56, 0, 0), (695, .bipush 111, 0, 0), (697, .iastore, 0, 0), (698, .dup, 0, 0), (699, .bipush 57, 0, 0), (701, .bipush 102, 0, 0), (703, .iastore, 0, 0), (704, .dup, 0, 0), (705, .bipush 58, 0, 0), (707, .bipush 116, 0, 0), (709, .iastore, 0, 0), (710, .dup, 0, 0), (711, .bipush 59, 0, 0), (713, .bipush 101, 0, 0), (715, .iastore, 0, 0), (716, .dup, 0, 0), (717, .bipush 60, 0, 0)]
theorem q_ck115_18 : q_ckL 115 q_tt115_18 = true := by decide +kernel
def q_tt115_19 : List (Nat × q_I) := [(719, .bipush 110, 0, 0), (721, .iastore, 0, 0), (722, .dup, 0, 0), (723, .bipush 61, 0, 0), (725, .bipush 32, 0, 0), (727, .iastore, 0, 0), (728, .dup, 0, 0), (729, .bipush 62, 0, 0), (731, .bipush 32, 0, 0), (733, .iastore, 0, 0), (734, .dup, 0, 0), (735, .bipush 63, 0, 0), (737, .bipush 32, 0, 0), (739, .iastore, 0, 0), (740, .dup, 0, 0), (741, .bipush 64, 0, 0), (743, .bipush 112, 0, 0), (745, .iastore, 0, 0), (746, .dup, 0, 0), (747, .bipush 65, 0, 0), (749, .bipush 117, 0, 0), (751, .iastore, 0, 0), (752, .dup, 0, 0), (753, .bipush 66, 0, 0), (755, .bipush 114, 0, 0)]
theorem q_ck115_19 : q_ckL 115 q_tt115_19 = true := by decide +kernel
def q_tt115_20 : List (Nat × q_I) := [(757, .iastore, 0, 0), (758, .dup, 0, 0), (759, .bipush 67, 0, 0), (761, .bipush 115, 0, 0), (763, .iastore, 0, 0), (764, .dup, 0, 0), (765, .bipush 68, 0, 0), (767, .bipush 101, 0, 0), (769, .iastore, 0, 0), (770, .dup, 0, 0), (771, .bipush 69, 0, 0), (773, .bipush 32, 0, 0), (775, .iastore, 0, 0), (776, .dup, 0, 0), (777, .bipush 70, 0, 0), (779, .bipush 32, 0, 0), (781, .iastore, 0, 0), (782, .dup, 0, 0), (783, .bipush 71, 0, 0), (785, .bipush 32, 0, 0), (787, .iastore, 0, 0), (788, .dup, 0, 0), (789, .bipush 72, 0, 0), (791, .bipush 111, 0, 0), (793, .iastore, 0, 0)]
theorem q_ck115_20 : q_ckL 115 q_tt115_20 = true := by decide +kernel
def q_tt115_21 : List (Nat × q_I) := [(794, .dup, 0, 0), (795, .bipush 73, 0, 0), (797, .bipush 114, 0, 0), (799, .iastore, 0, 0), (800, .dup, 0, 0), (801, .bipush 74, 0, 0), (803, .bipush 32, 0, 0), (805, .iastore, 0, 0), (806, .dup, 0, 0), (807, .bipush 75, 0, 0), (809, .bipush 32, 0, 0), (811, .iastore, 0, 0), (812, .dup, 0, 0), (813, .bipush 76, 0, 0), (815, .bipush 32, 0, 0), (817, .iastore, 0, 0), (818, .dup, 0, 0), (819, .bipush 77, 0, 0), (821, .bipush 32, 0, 0), (823, .iastore, 0, 0), (824, .dup, 0, 0), (825, .bipush 78, 0, 0), (827, .bipush 32, 0, 0), (829, .iastore, 0, 0), (830, .dup, 0, 0)]
theorem q_ck115_21 : q_ckL 115 q_tt115_21 = true := by decide +kernel
def q_tt115_22 : List (Nat × q_I) := [(831, .bipush 79, 0, 0), (833, .bipush 32, 0, 0), (835, .iastore, 0, 0), (836, .dup, 0, 0), (837, .bipush 80, 0, 0), (839, .bipush 97, 0, 0), (841, .iastore, 0, 0), (842, .dup, 0, 0), (843, .bipush 81, 0, 0), (845, .bipush 110, 0, 0), (847, .iastore, 0, 0), (848, .dup, 0, 0), (849, .bipush 82, 0, 0), (851, .bipush 100, 0, 0), (853, .iastore, 0, 0), (854, .dup, 0, 0), (855, .bipush 83, 0, 0), (857, .bipush 32, 0, 0), (859, .iastore, 0, 0), (860, .dup, 0, 0), (861, .bipush 84, 0, 0), (863, .bipush 32, 0, 0), (865, .iastore, 0, 0), (866, .dup, 0, 0), (867, .bipush 85, 0, 0)]
theorem q_ck115_22 : q_ckL 115 q_tt115_22 = true := by decide +kernel
def q_tt115_23 : List (Nat × q_I) := [(869, .bipush 32, 0, 0), (871, .iastore, 0, 0), (872, .dup, 0, 0), (873, .bipush 86, 0, 0), (875, .bipush 32, 0, 0), (877, .iastore, 0, 0), (878, .dup, 0, 0), (879, .bipush 87, 0, 0), (881, .bipush 32, 0, 0), (883, .iastore, 0, 0), (884, .dup, 0, 0), (885, .bipush 88, 0, 0), (887, .bipush 110, 0, 0), (889, .iastore, 0, 0), (890, .dup, 0, 0), (891, .bipush 89, 0, 0), (893, .bipush 111, 0, 0), (895, .iastore, 0, 0), (896, .dup, 0, 0), (897, .bipush 90, 0, 0), (899, .bipush 116, 0, 0), (901, .iastore, 0, 0), (902, .dup, 0, 0), (903, .bipush 91, 0, 0), (905, .bipush 32, 0, 0)]
theorem q_ck115_23 : q_ckL 115 q_tt115_23 = true := by decide +kernel
def q_tt115_24 : List (Nat × q_I) := [(907, .iastore, 0, 0), (908, .dup, 0, 0), (909, .bipush 92, 0, 0), (911, .bipush 32, 0, 0), (913, .iastore, 0, 0), (914, .dup, 0, 0), (915, .bipush 93, 0, 0), (917, .bipush 32, 0, 0), (919, .iastore, 0, 0), (920, .dup, 0, 0), (921, .bipush 94, 0, 0), (923, .bipush 32, 0, 0), (925, .iastore, 0, 0), (926, .dup, 0, 0), (927, .bipush 95, 0, 0), (929, .bipush 32, 0, 0), (931, .iastore, 0, 0), (932, .putfield 46, 8, 25), (935, .aload_n 0, 0, 0), (936, .sipush 200, 0, 0), (939, .newarray .int, 0, 0), (941, .putfield 49, 8, 26), (944, .aload_n 0, 0, 0), (945, .sipush 200, 0, 0), (948, .newarray .int, 0, 0)]
theorem q_ck115_24 : q_ckL 115 q_tt115_24 = true := by decide +kernel
def q_tt115_25 : List (Nat × q_I) := [(950, .putfield 52, 8, 30), (953, .aload_n 0, 0, 0), (954, .bipush 6, 0, 0), (956, .newarray .int, 0, 0), (958, .putfield 55, 8, 31), (961, .aload_n 0, 0, 0), (962, .bipush 6, 0, 0), (964, .newarray .int, 0, 0), (966, .putfield 58, 8, 34), (969, .aload_n 0, 0, 0), (970, .bipush 6, 0, 0), (972, .newarray .int, 0, 0), (974, .putfield 61, 8, 35), (977, .aload_n 0, 0, 0), (978, .bipush 6, 0, 0), (980, .newarray .int, 0, 0), (982, .putfield 64, 8, 37), (985, .iconst 0, 0, 0), (986, .istore_n 1, 0, 0), (987, .iload_n 1, 0, 0), (988, .bipush 41, 0, 0), (990, .if_icmp .ge 21, 0, 0), (993, .aload_n 0, 0, 0), (994, .getfield 22, 8, 6), (997, .iload_n 1, 0, 0)]
theorem q_ck115_25 : q_ckL 115 q_tt115_25 = true := by decide +kernel
def q_tt115_26 : List (Nat × q_I) := [(998, .aload_n 0, 0, 0), (999, .getfield 43, 8, 20), (1002, .iload_n 1, 0, 0), (1003, .iaload, 0, 0), (1004, .iastore, 0, 0), (1005, .iinc 1 1, 0, 0), (1008, .goto (-21), 0, 0), (1011, .aload_n 0, 0, 0), (1012, .bipush 41, 0, 0), (1014, .putfield 67, 8, 7), (1017, .aload_n 0, 0, 0), (1018, .invokevirtual 71, 136, 1), (1021, .pop, 0, 0), (1022, .return_, 0, 0)]
theorem q_ck115_26 : q_ckL 115 q_tt115_26 = true := by decide +kernel
theorem q_tt115 : q_code 115 = q_tt115_0 ++ (q_tt115_1 ++ (q_tt115_2 ++ (q_tt115_3 ++ (q_tt115_4 ++ (q_tt115_5 ++ (q_tt115_6 ++ (q_tt115_7 ++ (q_tt115_8 ++ (q_tt115_9 ++ (q_tt115_10 ++ (q_tt115_11 ++ (q_tt115_12 ++ (q_tt115_13 ++ (q_tt115_14 ++ (q_tt115_15 ++ (q_tt115_16 ++ (q_tt115_17 ++ (q_tt115_18 ++ (q_tt115_19 ++ (q_tt115_20 ++ (q_tt115_21 ++ (q_tt115_22 ++ (q_tt115_23 ++ (q_tt115_24 ++ (q_tt115_25 ++ (q_tt115_26)))))))))))))))))))))))))) := by decide +kernel
theorem q_ck115 : q_ck 115 = true := by unfold q_ck; rw [q_tt115]; exact q_ckL_app q_ck115_0 (q_ckL_app q_ck115_1 (q_ckL_app q_ck115_2 (q_ckL_app q_ck115_3 (q_ckL_app q_ck115_4 (q_ckL_app q_ck115_5 (q_ckL_app q_ck115_6 (q_ckL_app q_ck115_7 (q_ckL_app q_ck115_8 (q_ckL_app q_ck115_9 (q_ckL_app q_ck115_10 (q_ckL_app q_ck115_11 (q_ckL_app q_ck115_12 (q_ckL_app q_ck115_13 (q_ckL_app q_ck115_14 (q_ckL_app q_ck115_15 (q_ckL_app q_ck115_16 (q_ckL_app q_ck115_17 (q_ckL_app q_ck115_18 (q_ckL_app q_ck115_19 (q_ckL_app q_ck115_20 (q_ckL_app q_ck115_21 (q_ckL_app q_ck115_22 (q_ckL_app q_ck115_23 (q_ckL_app q_ck115_24 (q_ckL_app q_ck115_25 (q_ck115_26))))))))))))))))))))))))))
theorem q_ck116 : q_ck 116 = true := by decide +kernel
theorem q_ck117 : q_ck 117 = true := by decide +kernel
theorem q_ck118 : q_ck 118 = true := by decide +kernel
theorem q_ck119 : q_ck 119 = true := by decide +kernel
theorem q_ck120 : q_ck 120 = true := by decide +kernel
theorem q_ck121 : q_ck 121 = true := by decide +kernel
theorem q_ck122 : q_ck 122 = true := by decide +kernel
theorem q_ck123 : q_ck 123 = true := by decide +kernel
theorem q_ck124 : q_ck 124 = true := by decide +kernel
theorem q_ck125 : q_ck 125 = true := by decide +kernel
theorem q_ck126 : q_ck 126 = true := by decide +kernel
def q_tt127_0 : List (Nat × q_I) := [(0, .aload_n 0, 0, 0), (1, .getfield 98, 8, 21), (4, .aload_n 0, 0, 0), (5, .getfield 67, 8, 7), (8, .if_icmp .ge 44, 0, 0), (11, .aload_n 0, 0, 0), (12, .getfield 22, 8, 6), (15, .aload_n 0, 0, 0), (16, .getfield 98, 8, 21), (19, .iaload, 0, 0), (20, .bipush 32, 0, 0), (22, .if_icmp .eq 17, 0, 0), (25, .aload_n 0, 0, 0), (26, .getfield 22, 8, 6), (29, .aload_n 0, 0, 0), (30, .getfield 98, 8, 21), (33, .iaload, 0, 0), (34, .bipush 10, 0, 0), (36, .if_icmp .ne 16, 0, 0), (39, .aload_n 0, 0, 0), (40, .dup, 0, 0), (41, .getfield 98, 8, 21), (44, .iconst 1, 0, 0), (45, .iadd, 0, 0), (46, .putfield 98, 8, 21)]
theorem q_ck127_0 : q_ckL 127 q_tt127_0 = true := by decide +kernel
def q_tt127_1 : List (Nat × q_I) := [(49, .goto (-49), 0, 0), (52, .aload_n 0, 0, 0), (53, .aload_n 0, 0, 0), (54, .getfield 98, 8, 21), (57, .putfield 101, 8, 22), (60, .aload_n 0, 0, 0), (61, .iconst 0, 0, 0), (62, .putfield 104, 8, 23), (65, .aload_n 0, 0, 0), (66, .iconst 0, 0, 0), (67, .putfield 107, 8, 24), (70, .aload_n 0, 0, 0), (71, .getfield 98, 8, 21), (74, .aload_n 0, 0, 0), (75, .getfield 67, 8, 7), (78, .if_icmp .ne 4, 0, 0), (81, .return_, 0, 0), (82, .aload_n 0, 0, 0), (83, .getfield 22, 8, 6), (86, .aload_n 0, 0, 0), (87, .getfield 98, 8, 21), (90, .iaload, 0, 0), (91, .istore_n 1, 0, 0), (92, .iload_n 1, 0, 0), (93, .bipush 97, 0, 0)]
theorem q_ck127_1 : q_ckL 127 q_tt127_1 = true := by decide +kernel
def q_tt127_2 : List (Nat × q_I) := [(95, .bipush 122, 0, 0), (97, .invokestatic 78, 116, 3), (100, .ifCond .eq 117, 0, 0), (103, .aload_n 0, 0, 0), (104, .getfield 98, 8, 21), (107, .aload_n 0, 0, 0), (108, .getfield 67, 8, 7), (111, .if_icmp .ge 35, 0, 0), (114, .aload_n 0, 0, 0), (115, .getfield 22, 8, 6), (118, .aload_n 0, 0, 0), (119, .getfield 98, 8, 21), (122, .iaload, 0, 0), (123, .bipush 97, 0, 0), (125, .bipush 122, 0, 0), (127, .invokestatic 78, 116, 3), (130, .ifCond .eq 16, 0, 0), (133, .aload_n 0, 0, 0), (134, .dup, 0, 0), (135, .getfield 98, 8, 21), (138, .iconst 1, 0, 0), (139, .iadd, 0, 0), (140, .putfield 98, 8, 21), (143, .goto (-40), 0, 0), (146, .aload_n 0, 0, 0)]
theorem q_ck127_2 : q_ckL 127 q_tt127_2 = true := by decide +kernel
def q_tt127_3 : List (Nat × q_I) := [(147, .aload_n 0, 0, 0), (148, .getfield 101, 8, 22), (151, .aload_n 0, 0, 0), (152, .getfield 98, 8, 21), (155, .invokevirtual 110, 126, 3), (158, .istore_n 2, 0, 0), (159, .aload_n 0, 0, 0), (160, .iload_n 2, 0, 0), (161, .iconst 3, 0, 0), (162, .if_icmp .ge 7, 0, 0), (165, .iconst 3, 0, 0), (166, .goto 29, 0, 0), (169, .iload_n 2, 0, 0), (170, .bipush 9, 0, 0), (172, .if_icmp .ge 7, 0, 0), (175, .iconst 2, 0, 0), (176, .goto 19, 0, 0), (179, .iload_n 2, 0, 0), (180, .bipush 12, 0, 0), (182, .if_icmp .ne 7, 0, 0), (185, .iconst (-1), 0, 0), (186, .goto 9, 0, 0), (189, .iconst 4, 0, 0), (190, .iload_n 2, 0, 0), (191, .iadd, 0, 0)]
theorem q_ck127_3 : q_ckL 127 q_tt127_3 = true := by decide +kernel
def q_tt127_4 : List (Nat × q_I) := [(192, .bipush 9, 0, 0), (194, .isub, 0, 0), (195, .putfield 104, 8, 23), (198, .aload_n 0, 0, 0), (199, .iload_n 2, 0, 0), (200, .iconst 3, 0, 0), (201, .if_icmp .ge 7, 0, 0), (204, .iload_n 2, 0, 0), (205, .goto 6, 0, 0), (208, .iload_n 2, 0, 0), (209, .iconst 3, 0, 0), (210, .isub, 0, 0), (211, .putfield 107, 8, 24), (214, .goto 189, 0, 0), (217, .iload_n 1, 0, 0), (218, .bipush 48, 0, 0), (220, .bipush 57, 0, 0), (222, .invokestatic 78, 116, 3), (225, .ifCond .eq 101, 0, 0), (228, .iconst 0, 0, 0), (229, .istore_n 2, 0, 0), (230, .aload_n 0, 0, 0), (231, .getfield 98, 8, 21), (234, .aload_n 0, 0, 0), (235, .getfield 67, 8, 7)]
theorem q_ck127_4 : q_ckL 127 q_tt127_4 = true := by decide +kernel
def q_tt127_5 : List (Nat × q_I) := [(238, .if_icmp .ge 71, 0, 0), (241, .aload_n 0, 0, 0), (242, .getfield 22, 8, 6), (245, .aload_n 0, 0, 0), (246, .getfield 98, 8, 21), (249, .iaload, 0, 0), (250, .bipush 48, 0, 0), (252, .bipush 57, 0, 0), (254, .invokestatic 78, 116, 3), (257, .ifCond .eq 52, 0, 0), (260, .aload_n 0, 0, 0), (261, .iload_n 2, 0, 0), (262, .iconst 4, 0, 0), (263, .if_icmp .ge 26, 0, 0), (266, .bipush 10, 0, 0), (268, .aload_n 0, 0, 0), (269, .getfield 107, 8, 24), (272, .imul, 0, 0), (273, .aload_n 0, 0, 0), (274, .getfield 22, 8, 6), (277, .aload_n 0, 0, 0), (278, .getfield 98, 8, 21), (281, .iaload, 0, 0), (282, .iadd, 0, 0), (283, .bipush 48, 0, 0)]
theorem q_ck127_5 : q_ckL 127 q_tt127_5 = true := by decide +kernel
def q_tt127_6 : List (Nat × q_I) := [(285, .isub, 0, 0), (286, .goto 4, 0, 0), (289, .iconst 0, 0, 0), (290, .putfield 107, 8, 24), (293, .iinc 2 1, 0, 0), (296, .aload_n 0, 0, 0), (297, .dup, 0, 0), (298, .getfield 98, 8, 21), (301, .iconst 1, 0, 0), (302, .iadd, 0, 0), (303, .putfield 98, 8, 21), (306, .goto (-76), 0, 0), (309, .aload_n 0, 0, 0), (310, .iload_n 2, 0, 0), (311, .iconst 4, 0, 0), (312, .if_icmp .le 7, 0, 0), (315, .iconst (-1), 0, 0), (316, .goto 4, 0, 0), (319, .iconst 1, 0, 0), (320, .putfield 104, 8, 23), (323, .goto 80, 0, 0), (326, .iload_n 1, 0, 0), (327, .bipush 40, 0, 0), (329, .if_icmp .eq 45, 0, 0), (332, .iload_n 1, 0, 0)]
theorem q_ck127_6 : q_ckL 127 q_tt127_6 = true := by decide +kernel
def q_tt127_7 : List (Nat × q_I) := [(333, .bipush 41, 0, 0), (335, .if_icmp .eq 39, 0, 0), (338, .iload_n 1, 0, 0), (339, .bipush 59, 0, 0), (341, .if_icmp .eq 33, 0, 0), (344, .iload_n 1, 0, 0), (345, .bipush 43, 0, 0), (347, .if_icmp .eq 27, 0, 0), (350, .iload_n 1, 0, 0), (351, .bipush 45, 0, 0), (353, .if_icmp .eq 21, 0, 0), (356, .iload_n 1, 0, 0), (357, .bipush 42, 0, 0), (359, .if_icmp .eq 15, 0, 0), (362, .iload_n 1, 0, 0), (363, .bipush 60, 0, 0), (365, .if_icmp .eq 9, 0, 0), (368, .iload_n 1, 0, 0), (369, .bipush 61, 0, 0), (371, .if_icmp .ne 7, 0, 0), (374, .iconst 1, 0, 0), (375, .goto 4, 0, 0), (378, .iconst 0, 0, 0), (379, .istore_n 2, 0, 0), (380, .aload_n 0, 0, 0)]
theorem q_ck127_7 : q_ckL 127 q_tt127_7 = true := by decide +kernel
def q_tt127_8 : List (Nat × q_I) := [(381, .iload_n 2, 0, 0), (382, .ifCond .eq 7, 0, 0), (385, .iload_n 1, 0, 0), (386, .goto 4, 0, 0), (389, .iconst (-1), 0, 0), (390, .putfield 104, 8, 23), (393, .aload_n 0, 0, 0), (394, .dup, 0, 0), (395, .getfield 98, 8, 21), (398, .iconst 1, 0, 0), (399, .iadd, 0, 0), (400, .putfield 98, 8, 21), (403, .return_, 0, 0)]
theorem q_ck127_8 : q_ckL 127 q_tt127_8 = true := by decide +kernel
theorem q_tt127 : q_code 127 = q_tt127_0 ++ (q_tt127_1 ++ (q_tt127_2 ++ (q_tt127_3 ++ (q_tt127_4 ++ (q_tt127_5 ++ (q_tt127_6 ++ (q_tt127_7 ++ (q_tt127_8)))))))) := by decide +kernel
theorem q_ck127 : q_ck 127 = true := by unfold q_ck; rw [q_tt127]; exact q_ckL_app q_ck127_0 (q_ckL_app q_ck127_1 (q_ckL_app q_ck127_2 (q_ckL_app q_ck127_3 (q_ckL_app q_ck127_4 (q_ckL_app q_ck127_5 (q_ckL_app q_ck127_6 (q_ckL_app q_ck127_7 (q_ck127_8))))))))
theorem q_ck128 : q_ck 128 = true := by decide +kernel
theorem q_ck129 : q_ck 129 = true := by decide +kernel
theorem q_ck130 : q_ck 130 = true := by decide +kernel
theorem q_ck131 : q_ck 131 = true := by decide +kernel
theorem q_ck132 : q_ck 132 = true := by decide +kernel
theorem q_ck133 : q_ck 133 = true := by decide +kernel
theorem q_ck134 : q_ck 134 = true := by decide +kernel
theorem q_ck135 : q_ck 135 = true := by decide +kernel
theorem q_ck136 : q_ck 136 = true := by decide +kernel
theorem q_ck137 : q_ck 137 = true := by decide +kernel
theorem q_ck138 : q_ck 138 = true := by decide +kernel
theorem q_ck139 : q_ck 139 = true := by decide +kernel
theorem q_ck140 : q_ck 140 = true := by decide +kernel
theorem q_ck141 : q_ck 141 = true := by decide +kernel
theorem q_ck142 : q_ck 142 = true := by decide +kernel
theorem q_ck143 : q_ck 143 = true := by decide +kernel
theorem q_ck144 : q_ck 144 = true := by decide +kernel
theorem q_ck145 : q_ck 145 = true := by decide +kernel
theorem q_ck146 : q_ck 146 = true := by decide +kernel
theorem q_ck147 : q_ck 147 = true := by decide +kernel
theorem q_ck148 : q_ck 148 = true := by decide +kernel
theorem q_ck149 : q_ck 149 = true := by decide +kernel
theorem q_ck150 : q_ck 150 = true := by decide +kernel
theorem q_ck151 : q_ck 151 = true := by decide +kernel
theorem q_ck152 : q_ck 152 = true := by decide +kernel
theorem q_ck153 : q_ck 153 = true := by decide +kernel
theorem q_ck154 : q_ck 154 = true := by decide +kernel
theorem q_ck155 : q_ck 155 = true := by decide +kernel
theorem q_ck156 : q_ck 156 = true := by decide +kernel
theorem q_ck157 : q_ck 157 = true := by decide +kernel
theorem q_ck158 : q_ck 158 = true := by decide +kernel
theorem q_ck159 : q_ck 159 = true := by decide +kernel
theorem q_ck160 : q_ck 160 = true := by decide +kernel
theorem q_ck161 : q_ck 161 = true := by decide +kernel
theorem q_ck162 : q_ck 162 = true := by decide +kernel
theorem q_ck163 : q_ck 163 = true := by decide +kernel
theorem q_ck164 : q_ck 164 = true := by decide +kernel
theorem q_ck165 : q_ck 165 = true := by decide +kernel
theorem q_ck166 : q_ck 166 = true := by decide +kernel
theorem q_ck167 : q_ck 167 = true := by decide +kernel
theorem q_ck168 : q_ck 168 = true := by decide +kernel
theorem q_ck169 : q_ck 169 = true := by decide +kernel
theorem q_ck170 : q_ck 170 = true := by decide +kernel
theorem q_ck171 : q_ck 171 = true := by decide +kernel
theorem q_ck172 : q_ck 172 = true := by decide +kernel
theorem q_ck173 : q_ck 173 = true := by decide +kernel
theorem q_ck174 : q_ck 174 = true := by decide +kernel
theorem q_ck175 : q_ck 175 = true := by decide +kernel
theorem q_ck176 : q_ck 176 = true := by decide +kernel
theorem q_ck177 : q_ck 177 = true := by decide +kernel
theorem q_ck178 : q_ck 178 = true := by decide +kernel
theorem q_ck179 : q_ck 179 = true := by decide +kernel
theorem q_ck180 : q_ck 180 = true := by decide +kernel
theorem q_ck181 : q_ck 181 = true := by decide +kernel
theorem q_ck182 : q_ck 182 = true := by decide +kernel
theorem q_ck183 : q_ck 183 = true := by decide +kernel
theorem q_ck184 : q_ck 184 = true := by decide +kernel
theorem q_ck185 : q_ck 185 = true := by decide +kernel
theorem q_ck186 : q_ck 186 = true := by decide +kernel
theorem q_ck187 : q_ck 187 = true := by decide +kernel
theorem q_ck188 : q_ck 188 = true := by decide +kernel
theorem q_ck189 : q_ck 189 = true := by decide +kernel
theorem q_ck190 : q_ck 190 = true := by decide +kernel
theorem q_ck191 : q_ck 191 = true := by decide +kernel
theorem q_ck192 : q_ck 192 = true := by decide +kernel
theorem q_ck193 : q_ck 193 = true := by decide +kernel
theorem q_ck194 : q_ck 194 = true := by decide +kernel
theorem q_ck195 : q_ck 195 = true := by decide +kernel
theorem q_ck196 : q_ck 196 = true := by decide +kernel
theorem q_ck197 : q_ck 197 = true := by decide +kernel
theorem q_ck198 : q_ck 198 = true := by decide +kernel
theorem q_ck199 : q_ck 199 = true := by decide +kernel
theorem q_ck200 : q_ck 200 = true := by decide +kernel
theorem q_ck201 : q_ck 201 = true := by decide +kernel
theorem q_ck202 : q_ck 202 = true := by decide +kernel
theorem q_ck203 : q_ck 203 = true := by decide +kernel
theorem q_ck204 : q_ck 204 = true := by decide +kernel
theorem q_ck205 : q_ck 205 = true := by decide +kernel
theorem q_ck206 : q_ck 206 = true := by decide +kernel
theorem q_ck207 : q_ck 207 = true := by decide +kernel
theorem q_ck208 : q_ck 208 = true := by decide +kernel
theorem q_ck209 : q_ck 209 = true := by decide +kernel
theorem q_ck210 : q_ck 210 = true := by decide +kernel
theorem q_ck211 : q_ck 211 = true := by decide +kernel
theorem q_ck212 : q_ck 212 = true := by decide +kernel
theorem q_ck213 : q_ck 213 = true := by decide +kernel
theorem q_ck214 : q_ck 214 = true := by decide +kernel
def q_tt215_0 : List (Nat × q_I) := [(0, .new 7, 7, 0), (3, .dup, 0, 0), (4, .invokespecial 9, 59, 1), (7, .astore_n 1, 0, 0), (8, .new 10, 8, 0), (11, .dup, 0, 0), (12, .invokespecial 12, 115, 1), (15, .astore_n 2, 0, 0), (16, .iconst 0, 0, 0), (17, .istore_n 3, 0, 0), (18, .iload_n 3, 0, 0), (19, .aload_n 0, 0, 0), (20, .arraylength, 0, 0), (21, .bipush 7, 0, 0), (23, .isub, 0, 0), (24, .if_icmp .gt 1514, 0, 0), (27, .aload_n 0, 0, 0), (28, .iload_n 3, 0, 0), (29, .iaload, 0, 0), (30, .bipush 63, 0, 0), (32, .iand, 0, 0), (33, .tableswitch 1499 0 39 #[175, 198, 273, 286, 309, 352, 385, 418, 451, 494, 527, 560, 583, 606, 619, 652, 685, 718, 731, 764, 797, 820, 863, 896, 929, 972, 1015, 1038, 1071, 1104, 1137, 1160, 1204, 1238, 1251, 1264, 1307, 1350, 1413, 1466], 0, 175), (208, .aload_n 1, 0, 0), (209, .aload_n 0, 0, 0), (210, .iload_n 3, 0, 0)]
theorem q_ck215_0 : q_ckL 215 q_tt215_0 = true := by decide +kernel
def q_tt215_1 : List (Nat × q_I) := [(211, .iconst 1, 0, 0), (212, .iadd, 0, 0), (213, .iaload, 0, 0), (214, .invokevirtual 13, 60, 2), (217, .aload_n 2, 0, 0), (218, .aload_n 0, 0, 0), (219, .iload_n 3, 0, 0), (220, .iconst 1, 0, 0), (221, .iadd, 0, 0), (222, .iaload, 0, 0), (223, .invokevirtual 17, 123, 2), (226, .if_icmp .eq 1306, 0, 0), (229, .iconst 0, 0, 0), (230, .ireturn, 0, 0), (231, .aload_n 1, 0, 0), (232, .aload_n 0, 0, 0), (233, .iload_n 3, 0, 0), (234, .iconst 1, 0, 0), (235, .iadd, 0, 0), (236, .iaload, 0, 0), (237, .aload_n 0, 0, 0), (238, .iload_n 3, 0, 0), (239, .iconst 2, 0, 0), (240, .iadd, 0, 0), (241, .iaload, 0, 0)]
theorem q_ck215_1 : q_ckL 215 q_tt215_1 = true := by decide +kernel
def q_tt215_2 : List (Nat × q_I) := [(242, .aload_n 0, 0, 0), (243, .iload_n 3, 0, 0), (244, .iconst 3, 0, 0), (245, .iadd, 0, 0), (246, .iaload, 0, 0), (247, .aload_n 0, 0, 0), (248, .iload_n 3, 0, 0), (249, .iconst 4, 0, 0), (250, .iadd, 0, 0), (251, .iaload, 0, 0), (252, .aload_n 0, 0, 0), (253, .iload_n 3, 0, 0), (254, .iconst 5, 0, 0), (255, .iadd, 0, 0), (256, .iaload, 0, 0), (257, .aload_n 0, 0, 0), (258, .iload_n 3, 0, 0), (259, .bipush 6, 0, 0), (261, .iadd, 0, 0), (262, .iaload, 0, 0), (263, .invokevirtual 18, 61, 7), (266, .aload_n 2, 0, 0), (267, .aload_n 0, 0, 0), (268, .iload_n 3, 0, 0), (269, .iconst 1, 0, 0)]
theorem q_ck215_2 : q_ckL 215 q_tt215_2 = true := by decide +kernel
def q_tt215_3 : List (Nat × q_I) := [(270, .iadd, 0, 0), (271, .iaload, 0, 0), (272, .aload_n 0, 0, 0), (273, .iload_n 3, 0, 0), (274, .iconst 2, 0, 0), (275, .iadd, 0, 0), (276, .iaload, 0, 0), (277, .aload_n 0, 0, 0), (278, .iload_n 3, 0, 0), (279, .iconst 3, 0, 0), (280, .iadd, 0, 0), (281, .iaload, 0, 0), (282, .aload_n 0, 0, 0), (283, .iload_n 3, 0, 0), (284, .iconst 4, 0, 0), (285, .iadd, 0, 0), (286, .iaload, 0, 0), (287, .aload_n 0, 0, 0), (288, .iload_n 3, 0, 0), (289, .iconst 5, 0, 0), (290, .iadd, 0, 0), (291, .iaload, 0, 0), (292, .aload_n 0, 0, 0), (293, .iload_n 3, 0, 0), (294, .bipush 6, 0, 0)]
theorem q_ck215_3 : q_ckL 215 q_tt215_3 = true := by decide +kernel
def q_tt215_4 : List (Nat × q_I) := [(296, .iadd, 0, 0), (297, .iaload, 0, 0), (298, .invokevirtual 22, 125, 7), (301, .if_icmp .eq 1231, 0, 0), (304, .iconst 0, 0, 0), (305, .ireturn, 0, 0), (306, .aload_n 1, 0, 0), (307, .invokevirtual 23, 62, 1), (310, .aload_n 2, 0, 0), (311, .invokevirtual 27, 136, 1), (314, .if_icmp .eq 1218, 0, 0), (317, .iconst 0, 0, 0), (318, .ireturn, 0, 0), (319, .aload_n 1, 0, 0), (320, .aload_n 0, 0, 0), (321, .iload_n 3, 0, 0), (322, .iconst 1, 0, 0), (323, .iadd, 0, 0), (324, .iaload, 0, 0), (325, .invokevirtual 28, 63, 2), (328, .aload_n 2, 0, 0), (329, .aload_n 0, 0, 0), (330, .iload_n 3, 0, 0), (331, .iconst 1, 0, 0), (332, .iadd, 0, 0)]
theorem q_ck215_4 : q_ckL 215 q_tt215_4 = true := by decide +kernel
def q_tt215_5 : List (Nat × q_I) := [(333, .iaload, 0, 0), (334, .invokevirtual 31, 139, 2), (337, .if_icmp .eq 1195, 0, 0), (340, .iconst 0, 0, 0), (341, .ireturn, 0, 0), (342, .aload_n 1, 0, 0), (343, .aload_n 0, 0, 0), (344, .iload_n 3, 0, 0), (345, .iconst 1, 0, 0), (346, .iadd, 0, 0), (347, .iaload, 0, 0), (348, .aload_n 0, 0, 0), (349, .iload_n 3, 0, 0), (350, .iconst 2, 0, 0), (351, .iadd, 0, 0), (352, .iaload, 0, 0), (353, .aload_n 0, 0, 0), (354, .iload_n 3, 0, 0), (355, .iconst 3, 0, 0), (356, .iadd, 0, 0), (357, .iaload, 0, 0), (358, .invokevirtual 32, 64, 4), (361, .aload_n 2, 0, 0), (362, .aload_n 0, 0, 0), (363, .iload_n 3, 0, 0)]
theorem q_ck215_5 : q_ckL 215 q_tt215_5 = true := by decide +kernel
def q_tt215_6 : List (Nat × q_I) := [(364, .iconst 1, 0, 0), (365, .iadd, 0, 0), (366, .iaload, 0, 0), (367, .aload_n 0, 0, 0), (368, .iload_n 3, 0, 0), (369, .iconst 2, 0, 0), (370, .iadd, 0, 0), (371, .iaload, 0, 0), (372, .aload_n 0, 0, 0), (373, .iload_n 3, 0, 0), (374, .iconst 3, 0, 0), (375, .iadd, 0, 0), (376, .iaload, 0, 0), (377, .invokevirtual 36, 142, 4), (380, .if_icmp .eq 1152, 0, 0), (383, .iconst 0, 0, 0), (384, .ireturn, 0, 0), (385, .aload_n 1, 0, 0), (386, .aload_n 0, 0, 0), (387, .iload_n 3, 0, 0), (388, .iconst 1, 0, 0), (389, .iadd, 0, 0), (390, .iaload, 0, 0), (391, .aload_n 0, 0, 0), (392, .iload_n 3, 0, 0)]
theorem q_ck215_6 : q_ckL 215 q_tt215_6 = true := by decide +kernel
def q_tt215_7 : List (Nat × q_I) := [(393, .iconst 2, 0, 0), (394, .iadd, 0, 0), (395, .iaload, 0, 0), (396, .invokevirtual 37, 65, 3), (399, .aload_n 2, 0, 0), (400, .aload_n 0, 0, 0), (401, .iload_n 3, 0, 0), (402, .iconst 1, 0, 0), (403, .iadd, 0, 0), (404, .iaload, 0, 0), (405, .aload_n 0, 0, 0), (406, .iload_n 3, 0, 0), (407, .iconst 2, 0, 0), (408, .iadd, 0, 0), (409, .iaload, 0, 0), (410, .invokevirtual 41, 143, 3), (413, .if_icmp .eq 1119, 0, 0), (416, .iconst 0, 0, 0), (417, .ireturn, 0, 0), (418, .aload_n 1, 0, 0), (419, .aload_n 0, 0, 0), (420, .iload_n 3, 0, 0), (421, .iconst 1, 0, 0), (422, .iadd, 0, 0), (423, .iaload, 0, 0)]
theorem q_ck215_7 : q_ckL 215 q_tt215_7 = true := by decide +kernel
def q_tt215_8 : List (Nat × q_I) := [(424, .aload_n 0, 0, 0), (425, .iload_n 3, 0, 0), (426, .iconst 2, 0, 0), (427, .iadd, 0, 0), (428, .iaload, 0, 0), (429, .invokevirtual 42, 66, 3), (432, .aload_n 2, 0, 0), (433, .aload_n 0, 0, 0), (434, .iload_n 3, 0, 0), (435, .iconst 1, 0, 0), (436, .iadd, 0, 0), (437, .iaload, 0, 0), (438, .aload_n 0, 0, 0), (439, .iload_n 3, 0, 0), (440, .iconst 2, 0, 0), (441, .iadd, 0, 0), (442, .iaload, 0, 0), (443, .invokevirtual 45, 145, 3), (446, .if_icmp .eq 1086, 0, 0), (449, .iconst 0, 0, 0), (450, .ireturn, 0, 0), (451, .aload_n 1, 0, 0), (452, .aload_n 0, 0, 0), (453, .iload_n 3, 0, 0), (454, .iconst 1, 0, 0)]
theorem q_ck215_8 : q_ckL 215 q_tt215_8 = true := by decide +kernel
def q_tt215_9 : List (Nat × q_I) := [(455, .iadd, 0, 0), (456, .iaload, 0, 0), (457, .aload_n 0, 0, 0), (458, .iload_n 3, 0, 0), (459, .iconst 2, 0, 0), (460, .iadd, 0, 0), (461, .iaload, 0, 0), (462, .invokevirtual 46, 67, 3), (465, .aload_n 2, 0, 0), (466, .aload_n 0, 0, 0), (467, .iload_n 3, 0, 0), (468, .iconst 1, 0, 0), (469, .iadd, 0, 0), (470, .iaload, 0, 0), (471, .aload_n 0, 0, 0), (472, .iload_n 3, 0, 0), (473, .iconst 2, 0, 0), (474, .iadd, 0, 0), (475, .iaload, 0, 0), (476, .invokevirtual 49, 147, 3), (479, .if_icmp .eq 1053, 0, 0), (482, .iconst 0, 0, 0), (483, .ireturn, 0, 0), (484, .aload_n 1, 0, 0), (485, .aload_n 0, 0, 0)]
theorem q_ck215_9 : q_ckL 215 q_tt215_9 = true := by decide +kernel
def q_tt215_10 : List (Nat × q_I) := [(486, .iload_n 3, 0, 0), (487, .iconst 1, 0, 0), (488, .iadd, 0, 0), (489, .iaload, 0, 0), (490, .aload_n 0, 0, 0), (491, .iload_n 3, 0, 0), (492, .iconst 2, 0, 0), (493, .iadd, 0, 0), (494, .iaload, 0, 0), (495, .aload_n 0, 0, 0), (496, .iload_n 3, 0, 0), (497, .iconst 3, 0, 0), (498, .iadd, 0, 0), (499, .iaload, 0, 0), (500, .invokevirtual 50, 68, 4), (503, .aload_n 2, 0, 0), (504, .aload_n 0, 0, 0), (505, .iload_n 3, 0, 0), (506, .iconst 1, 0, 0), (507, .iadd, 0, 0), (508, .iaload, 0, 0), (509, .aload_n 0, 0, 0), (510, .iload_n 3, 0, 0), (511, .iconst 2, 0, 0), (512, .iadd, 0, 0)]
theorem q_ck215_10 : q_ckL 215 q_tt215_10 = true := by decide +kernel
def q_tt215_11 : List (Nat × q_I) := [(513, .iaload, 0, 0), (514, .aload_n 0, 0, 0), (515, .iload_n 3, 0, 0), (516, .iconst 3, 0, 0), (517, .iadd, 0, 0), (518, .iaload, 0, 0), (519, .invokevirtual 53, 148, 4), (522, .if_icmp .eq 1010, 0, 0), (525, .iconst 0, 0, 0), (526, .ireturn, 0, 0), (527, .aload_n 1, 0, 0), (528, .aload_n 0, 0, 0), (529, .iload_n 3, 0, 0), (530, .iconst 1, 0, 0), (531, .iadd, 0, 0), (532, .iaload, 0, 0), (533, .aload_n 0, 0, 0), (534, .iload_n 3, 0, 0), (535, .iconst 2, 0, 0), (536, .iadd, 0, 0), (537, .iaload, 0, 0), (538, .invokevirtual 54, 69, 3), (541, .aload_n 2, 0, 0), (542, .aload_n 0, 0, 0), (543, .iload_n 3, 0, 0)]
theorem q_ck215_11 : q_ckL 215 q_tt215_11 = true := by decide +kernel
def q_tt215_12 : List (Nat × q_I) := [(544, .iconst 1, 0, 0), (545, .iadd, 0, 0), (546, .iaload, 0, 0), (547, .aload_n 0, 0, 0), (548, .iload_n 3, 0, 0), (549, .iconst 2, 0, 0), (550, .iadd, 0, 0), (551, .iaload, 0, 0), (552, .invokevirtual 57, 151, 3), (555, .if_icmp .eq 977, 0, 0), (558, .iconst 0, 0, 0), (559, .ireturn, 0, 0), (560, .aload_n 1, 0, 0), (561, .aload_n 0, 0, 0), (562, .iload_n 3, 0, 0), (563, .iconst 1, 0, 0), (564, .iadd, 0, 0), (565, .iaload, 0, 0), (566, .aload_n 0, 0, 0), (567, .iload_n 3, 0, 0), (568, .iconst 2, 0, 0), (569, .iadd, 0, 0), (570, .iaload, 0, 0), (571, .invokevirtual 58, 70, 3), (574, .aload_n 2, 0, 0)]
theorem q_ck215_12 : q_ckL 215 q_tt215_12 = true := by decide +kernel
def q_tt215_13 : List (Nat × q_I) := [(575, .aload_n 0, 0, 0), (576, .iload_n 3, 0, 0), (577, .iconst 1, 0, 0), (578, .iadd, 0, 0), (579, .iaload, 0, 0), (580, .aload_n 0, 0, 0), (581, .iload_n 3, 0, 0), (582, .iconst 2, 0, 0), (583, .iadd, 0, 0), (584, .iaload, 0, 0), (585, .invokevirtual 61, 152, 3), (588, .if_icmp .eq 944, 0, 0), (591, .iconst 0, 0, 0), (592, .ireturn, 0, 0), (593, .aload_n 1, 0, 0), (594, .aload_n 0, 0, 0), (595, .iload_n 3, 0, 0), (596, .iconst 1, 0, 0), (597, .iadd, 0, 0), (598, .iaload, 0, 0), (599, .invokevirtual 62, 71, 2), (602, .aload_n 2, 0, 0), (603, .aload_n 0, 0, 0), (604, .iload_n 3, 0, 0), (605, .iconst 1, 0, 0)]
theorem q_ck215_13 : q_ckL 215 q_tt215_13 = true := by decide +kernel
def q_tt215_14 : List (Nat × q_I) := [(606, .iadd, 0, 0), (607, .iaload, 0, 0), (608, .invokevirtual 65, 154, 2), (611, .if_icmp .eq 921, 0, 0), (614, .iconst 0, 0, 0), (615, .ireturn, 0, 0), (616, .aload_n 1, 0, 0), (617, .aload_n 0, 0, 0), (618, .iload_n 3, 0, 0), (619, .iconst 1, 0, 0), (620, .iadd, 0, 0), (621, .iaload, 0, 0), (622, .invokevirtual 66, 72, 2), (625, .aload_n 2, 0, 0), (626, .aload_n 0, 0, 0), (627, .iload_n 3, 0, 0), (628, .iconst 1, 0, 0), (629, .iadd, 0, 0), (630, .iaload, 0, 0), (631, .invokevirtual 69, 156, 2), (634, .if_icmp .eq 898, 0, 0), (637, .iconst 0, 0, 0), (638, .ireturn, 0, 0), (639, .aload_n 1, 0, 0), (640, .invokevirtual 70, 73, 1)]
theorem q_ck215_14 : q_ckL 215 q_tt215_14 = true := by decide +kernel
def q_tt215_15 : List (Nat × q_I) := [(643, .aload_n 2, 0, 0), (644, .invokevirtual 73, 158, 1), (647, .if_icmp .eq 885, 0, 0), (650, .iconst 0, 0, 0), (651, .ireturn, 0, 0), (652, .aload_n 1, 0, 0), (653, .aload_n 0, 0, 0), (654, .iload_n 3, 0, 0), (655, .iconst 1, 0, 0), (656, .iadd, 0, 0), (657, .iaload, 0, 0), (658, .aload_n 0, 0, 0), (659, .iload_n 3, 0, 0), (660, .iconst 2, 0, 0), (661, .iadd, 0, 0), (662, .iaload, 0, 0), (663, .invokevirtual 74, 74, 3), (666, .aload_n 2, 0, 0), (667, .aload_n 0, 0, 0), (668, .iload_n 3, 0, 0), (669, .iconst 1, 0, 0), (670, .iadd, 0, 0), (671, .iaload, 0, 0), (672, .aload_n 0, 0, 0), (673, .iload_n 3, 0, 0)]
theorem q_ck215_15 : q_ckL 215 q_tt215_15 = true := by decide +kernel
def q_tt215_16 : List (Nat × q_I) := [(674, .iconst 2, 0, 0), (675, .iadd, 0, 0), (676, .iaload, 0, 0), (677, .invokevirtual 77, 160, 3), (680, .if_icmp .eq 852, 0, 0), (683, .iconst 0, 0, 0), (684, .ireturn, 0, 0), (685, .aload_n 1, 0, 0), (686, .aload_n 0, 0, 0), (687, .iload_n 3, 0, 0), (688, .iconst 1, 0, 0), (689, .iadd, 0, 0), (690, .iaload, 0, 0), (691, .aload_n 0, 0, 0), (692, .iload_n 3, 0, 0), (693, .iconst 2, 0, 0), (694, .iadd, 0, 0), (695, .iaload, 0, 0), (696, .invokevirtual 78, 75, 3), (699, .aload_n 2, 0, 0), (700, .aload_n 0, 0, 0), (701, .iload_n 3, 0, 0), (702, .iconst 1, 0, 0), (703, .iadd, 0, 0), (704, .iaload, 0, 0)]
theorem q_ck215_16 : q_ckL 215 q_tt215_16 = true := by decide +kernel
def q_tt215_17 : List (Nat × q_I) := [(705, .aload_n 0, 0, 0), (706, .iload_n 3, 0, 0), (707, .iconst 2, 0, 0), (708, .iadd, 0, 0), (709, .iaload, 0, 0), (710, .invokevirtual 81, 165, 3), (713, .if_icmp .eq 819, 0, 0), (716, .iconst 0, 0, 0), (717, .ireturn, 0, 0), (718, .aload_n 1, 0, 0), (719, .aload_n 0, 0, 0), (720, .iload_n 3, 0, 0), (721, .iconst 1, 0, 0), (722, .iadd, 0, 0), (723, .iaload, 0, 0), (724, .aload_n 0, 0, 0), (725, .iload_n 3, 0, 0), (726, .iconst 2, 0, 0), (727, .iadd, 0, 0), (728, .iaload, 0, 0), (729, .invokevirtual 82, 76, 3), (732, .aload_n 2, 0, 0), (733, .aload_n 0, 0, 0), (734, .iload_n 3, 0, 0), (735, .iconst 1, 0, 0)]
theorem q_ck215_17 : q_ckL 215 q_tt215_17 = true := by decide +kernel
def q_tt215_18 : List (Nat × q_I) := [(736, .iadd, 0, 0), (737, .iaload, 0, 0), (738, .aload_n 0, 0, 0), (739, .iload_n 3, 0, 0), (740, .iconst 2, 0, 0), (741, .iadd, 0, 0), (742, .iaload, 0, 0), (743, .invokevirtual 85, 166, 3), (746, .if_icmp .eq 786, 0, 0), (749, .iconst 0, 0, 0), (750, .ireturn, 0, 0), (751, .aload_n 1, 0, 0), (752, .invokevirtual 86, 77, 1), (755, .aload_n 2, 0, 0), (756, .invokevirtual 89, 167, 1), (759, .if_icmp .eq 773, 0, 0), (762, .iconst 0, 0, 0), (763, .ireturn, 0, 0), (764, .aload_n 1, 0, 0), (765, .aload_n 0, 0, 0), (766, .iload_n 3, 0, 0), (767, .iconst 1, 0, 0), (768, .iadd, 0, 0), (769, .iaload, 0, 0), (770, .aload_n 0, 0, 0)]
theorem q_ck215_18 : q_ckL 215 q_tt215_18 = true := by decide +kernel
def q_tt215_19 : List (Nat × q_I) := [(771, .iload_n 3, 0, 0), (772, .iconst 2, 0, 0), (773, .iadd, 0, 0), (774, .iaload, 0, 0), (775, .invokevirtual 90, 78, 3), (778, .aload_n 2, 0, 0), (779, .aload_n 0, 0, 0), (780, .iload_n 3, 0, 0), (781, .iconst 1, 0, 0), (782, .iadd, 0, 0), (783, .iaload, 0, 0), (784, .aload_n 0, 0, 0), (785, .iload_n 3, 0, 0), (786, .iconst 2, 0, 0), (787, .iadd, 0, 0), (788, .iaload, 0, 0), (789, .invokevirtual 93, 170, 3), (792, .if_icmp .eq 740, 0, 0), (795, .iconst 0, 0, 0), (796, .ireturn, 0, 0), (797, .aload_n 1, 0, 0), (798, .aload_n 0, 0, 0), (799, .iload_n 3, 0, 0), (800, .iconst 1, 0, 0), (801, .iadd, 0, 0)]
theorem q_ck215_19 : q_ckL 215 q_tt215_19 = true := by decide +kernel
def q_tt215_20 : List (Nat × q_I) := [(802, .iaload, 0, 0), (803, .aload_n 0, 0, 0), (804, .iload_n 3, 0, 0), (805, .iconst 2, 0, 0), (806, .iadd, 0, 0), (807, .iaload, 0, 0), (808, .invokevirtual 94, 79, 3), (811, .aload_n 2, 0, 0), (812, .aload_n 0, 0, 0), (813, .iload_n 3, 0, 0), (814, .iconst 1, 0, 0), (815, .iadd, 0, 0), (816, .iaload, 0, 0), (817, .aload_n 0, 0, 0), (818, .iload_n 3, 0, 0), (819, .iconst 2, 0, 0), (820, .iadd, 0, 0), (821, .iaload, 0, 0), (822, .invokevirtual 97, 172, 3), (825, .if_icmp .eq 707, 0, 0), (828, .iconst 0, 0, 0), (829, .ireturn, 0, 0), (830, .aload_n 1, 0, 0), (831, .aload_n 0, 0, 0), (832, .iload_n 3, 0, 0)]
theorem q_ck215_20 : q_ckL 215 q_tt215_20 = true := by decide +kernel
def q_tt215_21 : List (Nat × q_I) := [(833, .iconst 1, 0, 0), (834, .iadd, 0, 0), (835, .iaload, 0, 0), (836, .invokevirtual 98, 80, 2), (839, .aload_n 2, 0, 0), (840, .aload_n 0, 0, 0), (841, .iload_n 3, 0, 0), (842, .iconst 1, 0, 0), (843, .iadd, 0, 0), (844, .iaload, 0, 0), (845, .invokevirtual 101, 173, 2), (848, .if_icmp .eq 684, 0, 0), (851, .iconst 0, 0, 0), (852, .ireturn, 0, 0), (853, .aload_n 1, 0, 0), (854, .aload_n 0, 0, 0), (855, .iload_n 3, 0, 0), (856, .iconst 1, 0, 0), (857, .iadd, 0, 0), (858, .iaload, 0, 0), (859, .aload_n 0, 0, 0), (860, .iload_n 3, 0, 0), (861, .iconst 2, 0, 0), (862, .iadd, 0, 0), (863, .iaload, 0, 0)]
theorem q_ck215_21 : q_ckL 215 q_tt215_21 = true := by decide +kernel
def q_tt215_22 : List (Nat × q_I) := [(864, .aload_n 0, 0, 0), (865, .iload_n 3, 0, 0), (866, .iconst 3, 0, 0), (867, .iadd, 0, 0), (868, .iaload, 0, 0), (869, .invokevirtual 102, 81, 4), (872, .aload_n 2, 0, 0), (873, .aload_n 0, 0, 0), (874, .iload_n 3, 0, 0), (875, .iconst 1, 0, 0), (876, .iadd, 0, 0), (877, .iaload, 0, 0), (878, .aload_n 0, 0, 0), (879, .iload_n 3, 0, 0), (880, .iconst 2, 0, 0), (881, .iadd, 0, 0), (882, .iaload, 0, 0), (883, .aload_n 0, 0, 0), (884, .iload_n 3, 0, 0), (885, .iconst 3, 0, 0), (886, .iadd, 0, 0), (887, .iaload, 0, 0), (888, .invokevirtual 105, 174, 4), (891, .if_icmp .eq 641, 0, 0), (894, .iconst 0, 0, 0)]
theorem q_ck215_22 : q_ckL 215 q_tt215_22 = true := by decide +kernel
def q_tt215_23 : List (Nat × q_I) := [(895, .ireturn, 0, 0), (896, .aload_n 1, 0, 0), (897, .aload_n 0, 0, 0), (898, .iload_n 3, 0, 0), (899, .iconst 1, 0, 0), (900, .iadd, 0, 0), (901, .iaload, 0, 0), (902, .aload_n 0, 0, 0), (903, .iload_n 3, 0, 0), (904, .iconst 2, 0, 0), (905, .iadd, 0, 0), (906, .iaload, 0, 0), (907, .invokevirtual 106, 82, 3), (910, .aload_n 2, 0, 0), (911, .aload_n 0, 0, 0), (912, .iload_n 3, 0, 0), (913, .iconst 1, 0, 0), (914, .iadd, 0, 0), (915, .iaload, 0, 0), (916, .aload_n 0, 0, 0), (917, .iload_n 3, 0, 0), (918, .iconst 2, 0, 0), (919, .iadd, 0, 0), (920, .iaload, 0, 0), (921, .invokevirtual 109, 176, 3)]
theorem q_ck215_23 : q_ckL 215 q_tt215_23 = true := by decide +kernel
def q_tt215_24 : List (Nat × q_I) := [(924, .if_icmp .eq 608, 0, 0), (927, .iconst 0, 0, 0), (928, .ireturn, 0, 0), (929, .aload_n 1, 0, 0), (930, .aload_n 0, 0, 0), (931, .iload_n 3, 0, 0), (932, .iconst 1, 0, 0), (933, .iadd, 0, 0), (934, .iaload, 0, 0), (935, .aload_n 0, 0, 0), (936, .iload_n 3, 0, 0), (937, .iconst 2, 0, 0), (938, .iadd, 0, 0), (939, .iaload, 0, 0), (940, .invokevirtual 110, 83, 3), (943, .aload_n 2, 0, 0), (944, .aload_n 0, 0, 0), (945, .iload_n 3, 0, 0), (946, .iconst 1, 0, 0), (947, .iadd, 0, 0), (948, .iaload, 0, 0), (949, .aload_n 0, 0, 0), (950, .iload_n 3, 0, 0), (951, .iconst 2, 0, 0), (952, .iadd, 0, 0)]
theorem q_ck215_24 : q_ckL 215 q_tt215_24 = true := by decide +kernel
def q_tt215_25 : List (Nat × q_I) := [(953, .iaload, 0, 0), (954, .invokevirtual 113, 180, 3), (957, .if_icmp .eq 575, 0, 0), (960, .iconst 0, 0, 0), (961, .ireturn, 0, 0), (962, .aload_n 1, 0, 0), (963, .aload_n 0, 0, 0), (964, .iload_n 3, 0, 0), (965, .iconst 1, 0, 0), (966, .iadd, 0, 0), (967, .iaload, 0, 0), (968, .aload_n 0, 0, 0), (969, .iload_n 3, 0, 0), (970, .iconst 2, 0, 0), (971, .iadd, 0, 0), (972, .iaload, 0, 0), (973, .aload_n 0, 0, 0), (974, .iload_n 3, 0, 0), (975, .iconst 3, 0, 0), (976, .iadd, 0, 0), (977, .iaload, 0, 0), (978, .invokevirtual 114, 84, 4), (981, .aload_n 2, 0, 0), (982, .aload_n 0, 0, 0), (983, .iload_n 3, 0, 0)]
theorem q_ck215_25 : q_ckL 215 q_tt215_25 = true := by decide +kernel
def q_tt215_26 : List (Nat × q_I) := [(984, .iconst 1, 0, 0), (985, .iadd, 0, 0), (986, .iaload, 0, 0), (987, .aload_n 0, 0, 0), (988, .iload_n 3, 0, 0), (989, .iconst 2, 0, 0), (990, .iadd, 0, 0), (991, .iaload, 0, 0), (992, .aload_n 0, 0, 0), (993, .iload_n 3, 0, 0), (994, .iconst 3, 0, 0), (995, .iadd, 0, 0), (996, .iaload, 0, 0), (997, .invokevirtual 117, 181, 4), (1000, .if_icmp .eq 532, 0, 0), (1003, .iconst 0, 0, 0), (1004, .ireturn, 0, 0), (1005, .aload_n 1, 0, 0), (1006, .aload_n 0, 0, 0), (1007, .iload_n 3, 0, 0), (1008, .iconst 1, 0, 0), (1009, .iadd, 0, 0), (1010, .iaload, 0, 0), (1011, .aload_n 0, 0, 0), (1012, .iload_n 3, 0, 0)]
theorem q_ck215_26 : q_ckL 215 q_tt215_26 = true := by decide +kernel
def q_tt215_27 : List (Nat × q_I) := [(1013, .iconst 2, 0, 0), (1014, .iadd, 0, 0), (1015, .iaload, 0, 0), (1016, .aload_n 0, 0, 0), (1017, .iload_n 3, 0, 0), (1018, .iconst 3, 0, 0), (1019, .iadd, 0, 0), (1020, .iaload, 0, 0), (1021, .invokevirtual 118, 85, 4), (1024, .aload_n 2, 0, 0), (1025, .aload_n 0, 0, 0), (1026, .iload_n 3, 0, 0), (1027, .iconst 1, 0, 0), (1028, .iadd, 0, 0), (1029, .iaload, 0, 0), (1030, .aload_n 0, 0, 0), (1031, .iload_n 3, 0, 0), (1032, .iconst 2, 0, 0), (1033, .iadd, 0, 0), (1034, .iaload, 0, 0), (1035, .aload_n 0, 0, 0), (1036, .iload_n 3, 0, 0), (1037, .iconst 3, 0, 0), (1038, .iadd, 0, 0), (1039, .iaload, 0, 0)]
theorem q_ck215_27 : q_ckL 215 q_tt215_27 = true := by decide +kernel
def q_tt215_28 : List (Nat × q_I) := [(1040, .invokevirtual 121, 182, 4), (1043, .if_icmp .eq 489, 0, 0), (1046, .iconst 0, 0, 0), (1047, .ireturn, 0, 0), (1048, .aload_n 1, 0, 0), (1049, .aload_n 0, 0, 0), (1050, .iload_n 3, 0, 0), (1051, .iconst 1, 0, 0), (1052, .iadd, 0, 0), (1053, .iaload, 0, 0), (1054, .invokevirtual 122, 86, 2), (1057, .aload_n 2, 0, 0), (1058, .aload_n 0, 0, 0), (1059, .iload_n 3, 0, 0), (1060, .iconst 1, 0, 0), (1061, .iadd, 0, 0), (1062, .iaload, 0, 0), (1063, .invokevirtual 125, 183, 2), (1066, .if_icmp .eq 466, 0, 0), (1069, .iconst 0, 0, 0), (1070, .ireturn, 0, 0), (1071, .aload_n 1, 0, 0), (1072, .aload_n 0, 0, 0), (1073, .iload_n 3, 0, 0), (1074, .iconst 1, 0, 0)]
theorem q_ck215_28 : q_ckL 215 q_tt215_28 = true := by decide +kernel
def q_tt215_29 : List (Nat × q_I) := [(1075, .iadd, 0, 0), (1076, .iaload, 0, 0), (1077, .aload_n 0, 0, 0), (1078, .iload_n 3, 0, 0), (1079, .iconst 2, 0, 0), (1080, .iadd, 0, 0), (1081, .iaload, 0, 0), (1082, .invokevirtual 126, 87, 3), (1085, .aload_n 2, 0, 0), (1086, .aload_n 0, 0, 0), (1087, .iload_n 3, 0, 0), (1088, .iconst 1, 0, 0), (1089, .iadd, 0, 0), (1090, .iaload, 0, 0), (1091, .aload_n 0, 0, 0), (1092, .iload_n 3, 0, 0), (1093, .iconst 2, 0, 0), (1094, .iadd, 0, 0), (1095, .iaload, 0, 0), (1096, .invokevirtual 129, 184, 3), (1099, .if_icmp .eq 433, 0, 0), (1102, .iconst 0, 0, 0), (1103, .ireturn, 0, 0), (1104, .aload_n 1, 0, 0), (1105, .aload_n 0, 0, 0)]
theorem q_ck215_29 : q_ckL 215 q_tt215_29 = true := by decide +kernel
def q_tt215_30 : List (Nat × q_I) := [(1106, .iload_n 3, 0, 0), (1107, .iconst 1, 0, 0), (1108, .iadd, 0, 0), (1109, .iaload, 0, 0), (1110, .aload_n 0, 0, 0), (1111, .iload_n 3, 0, 0), (1112, .iconst 2, 0, 0), (1113, .iadd, 0, 0), (1114, .iaload, 0, 0), (1115, .invokevirtual 130, 88, 3), (1118, .aload_n 2, 0, 0), (1119, .aload_n 0, 0, 0), (1120, .iload_n 3, 0, 0), (1121, .iconst 1, 0, 0), (1122, .iadd, 0, 0), (1123, .iaload, 0, 0), (1124, .aload_n 0, 0, 0), (1125, .iload_n 3, 0, 0), (1126, .iconst 2, 0, 0), (1127, .iadd, 0, 0), (1128, .iaload, 0, 0), (1129, .invokevirtual 133, 185, 3), (1132, .if_icmp .eq 400, 0, 0), (1135, .iconst 0, 0, 0), (1136, .ireturn, 0, 0)]
theorem q_ck215_30 : q_ckL 215 q_tt215_30 = true := by decide +kernel
def q_tt215_31 : List (Nat × q_I) := [(1137, .aload_n 1, 0, 0), (1138, .aload_n 0, 0, 0), (1139, .iload_n 3, 0, 0), (1140, .iconst 1, 0, 0), (1141, .iadd, 0, 0), (1142, .iaload, 0, 0), (1143, .aload_n 0, 0, 0), (1144, .iload_n 3, 0, 0), (1145, .iconst 2, 0, 0), (1146, .iadd, 0, 0), (1147, .iaload, 0, 0), (1148, .invokevirtual 134, 89, 3), (1151, .aload_n 2, 0, 0), (1152, .aload_n 0, 0, 0), (1153, .iload_n 3, 0, 0), (1154, .iconst 1, 0, 0), (1155, .iadd, 0, 0), (1156, .iaload, 0, 0), (1157, .aload_n 0, 0, 0), (1158, .iload_n 3, 0, 0), (1159, .iconst 2, 0, 0), (1160, .iadd, 0, 0), (1161, .iaload, 0, 0), (1162, .invokevirtual 137, 188, 3), (1165, .if_icmp .eq 367, 0, 0)]
theorem q_ck215_31 : q_ckL 215 q_tt215_31 = true := by decide +kernel
def q_tt215_32 : List (Nat × q_I) := [(1168, .iconst 0, 0, 0), (1169, .ireturn, 0, 0), (1170, .aload_n 1, 0, 0), (1171, .aload_n 0, 0, 0), (1172, .iload_n 3, 0, 0), (1173, .iconst 1, 0, 0), (1174, .iadd, 0, 0), (1175, .iaload, 0, 0), (1176, .invokevirtual 138, 90, 2), (1179, .aload_n 2, 0, 0), (1180, .aload_n 0, 0, 0), (1181, .iload_n 3, 0, 0), (1182, .iconst 1, 0, 0), (1183, .iadd, 0, 0), (1184, .iaload, 0, 0), (1185, .invokevirtual 141, 189, 2), (1188, .if_icmp .eq 344, 0, 0), (1191, .iconst 0, 0, 0), (1192, .ireturn, 0, 0), (1193, .aload_n 1, 0, 0), (1194, .aload_n 0, 0, 0), (1195, .iload_n 3, 0, 0), (1196, .iconst 1, 0, 0), (1197, .iadd, 0, 0), (1198, .iaload, 0, 0)]
theorem q_ck215_32 : q_ckL 215 q_tt215_32 = true := by decide +kernel
def q_tt215_33 : List (Nat × q_I) := [(1199, .aload_n 0, 0, 0), (1200, .iload_n 3, 0, 0), (1201, .iconst 2, 0, 0), (1202, .iadd, 0, 0), (1203, .iaload, 0, 0), (1204, .aload_n 0, 0, 0), (1205, .iload_n 3, 0, 0), (1206, .iconst 3, 0, 0), (1207, .iadd, 0, 0), (1208, .iaload, 0, 0), (1209, .invokevirtual 142, 91, 4), (1212, .aload_n 2, 0, 0), (1213, .aload_n 0, 0, 0), (1214, .iload_n 3, 0, 0), (1215, .iconst 1, 0, 0), (1216, .iadd, 0, 0), (1217, .iaload, 0, 0), (1218, .aload_n 0, 0, 0), (1219, .iload_n 3, 0, 0), (1220, .iconst 2, 0, 0), (1221, .iadd, 0, 0), (1222, .iaload, 0, 0), (1223, .aload_n 0, 0, 0), (1224, .iload_n 3, 0, 0), (1225, .iconst 3, 0, 0)]
theorem q_ck215_33 : q_ckL 215 q_tt215_33 = true := by decide +kernel
def q_tt215_34 : List (Nat × q_I) := [(1226, .iadd, 0, 0), (1227, .iaload, 0, 0), (1228, .invokevirtual 146, 191, 4), (1231, .lcmp, 0, 0), (1232, .ifCond .eq 300, 0, 0), (1235, .iconst 0, 0, 0), (1236, .ireturn, 0, 0), (1237, .aload_n 1, 0, 0), (1238, .aload_n 0, 0, 0), (1239, .iload_n 3, 0, 0), (1240, .iconst 1, 0, 0), (1241, .iadd, 0, 0), (1242, .iaload, 0, 0), (1243, .aload_n 0, 0, 0), (1244, .iload_n 3, 0, 0), (1245, .iconst 2, 0, 0), (1246, .iadd, 0, 0), (1247, .iaload, 0, 0), (1248, .invokevirtual 147, 92, 3), (1251, .aload_n 2, 0, 0), (1252, .aload_n 0, 0, 0), (1253, .iload_n 3, 0, 0), (1254, .iconst 1, 0, 0), (1255, .iadd, 0, 0), (1256, .iaload, 0, 0)]
theorem q_ck215_34 : q_ckL 215 q_tt215_34 = true := by decide +kernel
def q_tt215_35 : List (Nat × q_I) := [(1257, .aload_n 0, 0, 0), (1258, .iload_n 3, 0, 0), (1259, .iconst 2, 0, 0), (1260, .iadd, 0, 0), (1261, .iaload, 0, 0), (1262, .invokevirtual 151, 192, 3), (1265, .lcmp, 0, 0), (1266, .ifCond .eq 266, 0, 0), (1269, .iconst 0, 0, 0), (1270, .ireturn, 0, 0), (1271, .aload_n 1, 0, 0), (1272, .invokevirtual 152, 93, 1), (1275, .aload_n 2, 0, 0), (1276, .invokevirtual 155, 193, 1), (1279, .if_icmp .eq 253, 0, 0), (1282, .iconst 0, 0, 0), (1283, .ireturn, 0, 0), (1284, .aload_n 1, 0, 0), (1285, .invokevirtual 156, 94, 1), (1288, .aload_n 2, 0, 0), (1289, .invokevirtual 159, 194, 1), (1292, .if_icmp .eq 240, 0, 0), (1295, .iconst 0, 0, 0), (1296, .ireturn, 0, 0), (1297, .aload_n 1, 0, 0)]
theorem q_ck215_35 : q_ckL 215 q_tt215_35 = true := by decide +kernel
def q_tt215_36 : List (Nat × q_I) := [(1298, .aload_n 0, 0, 0), (1299, .iload_n 3, 0, 0), (1300, .iconst 1, 0, 0), (1301, .iadd, 0, 0), (1302, .iaload, 0, 0), (1303, .aload_n 0, 0, 0), (1304, .iload_n 3, 0, 0), (1305, .iconst 2, 0, 0), (1306, .iadd, 0, 0), (1307, .iaload, 0, 0), (1308, .aload_n 0, 0, 0), (1309, .iload_n 3, 0, 0), (1310, .iconst 3, 0, 0), (1311, .iadd, 0, 0), (1312, .iaload, 0, 0), (1313, .invokevirtual 160, 95, 4), (1316, .aload_n 2, 0, 0), (1317, .aload_n 0, 0, 0), (1318, .iload_n 3, 0, 0), (1319, .iconst 1, 0, 0), (1320, .iadd, 0, 0), (1321, .iaload, 0, 0), (1322, .aload_n 0, 0, 0), (1323, .iload_n 3, 0, 0), (1324, .iconst 2, 0, 0)]
theorem q_ck215_36 : q_ckL 215 q_tt215_36 = true := by decide +kernel
def q_tt215_37 : List (Nat × q_I) := [(1325, .iadd, 0, 0), (1326, .iaload, 0, 0), (1327, .aload_n 0, 0, 0), (1328, .iload_n 3, 0, 0), (1329, .iconst 3, 0, 0), (1330, .iadd, 0, 0), (1331, .iaload, 0, 0), (1332, .invokevirtual 163, 195, 4), (1335, .if_icmp .eq 197, 0, 0), (1338, .iconst 0, 0, 0), (1339, .ireturn, 0, 0), (1340, .aload_n 1, 0, 0), (1341, .aload_n 0, 0, 0), (1342, .iload_n 3, 0, 0), (1343, .iconst 1, 0, 0), (1344, .iadd, 0, 0), (1345, .iaload, 0, 0), (1346, .aload_n 0, 0, 0), (1347, .iload_n 3, 0, 0), (1348, .iconst 2, 0, 0), (1349, .iadd, 0, 0), (1350, .iaload, 0, 0), (1351, .aload_n 0, 0, 0), (1352, .iload_n 3, 0, 0), (1353, .iconst 3, 0, 0)]
theorem q_ck215_37 : q_ckL 215 q_tt215_37 = true := by decide +kernel
def q_tt215_38 : List (Nat × q_I) := [(1354, .iadd, 0, 0), (1355, .iaload, 0, 0), (1356, .invokevirtual 164, 96, 4), (1359, .aload_n 2, 0, 0), (1360, .aload_n 0, 0, 0), (1361, .iload_n 3, 0, 0), (1362, .iconst 1, 0, 0), (1363, .iadd, 0, 0), (1364, .iaload, 0, 0), (1365, .aload_n 0, 0, 0), (1366, .iload_n 3, 0, 0), (1367, .iconst 2, 0, 0), (1368, .iadd, 0, 0), (1369, .iaload, 0, 0), (1370, .aload_n 0, 0, 0), (1371, .iload_n 3, 0, 0), (1372, .iconst 3, 0, 0), (1373, .iadd, 0, 0), (1374, .iaload, 0, 0), (1375, .invokevirtual 167, 196, 4), (1378, .if_icmp .eq 154, 0, 0), (1381, .iconst 0, 0, 0), (1382, .ireturn, 0, 0), (1383, .aload_n 1, 0, 0), (1384, .aload_n 0, 0, 0)]
theorem q_ck215_38 : q_ckL 215 q_tt215_38 = true := by decide +kernel
def q_tt215_39 : List (Nat × q_I) := [(1385, .iload_n 3, 0, 0), (1386, .iconst 1, 0, 0), (1387, .iadd, 0, 0), (1388, .iaload, 0, 0), (1389, .aload_n 0, 0, 0), (1390, .iload_n 3, 0, 0), (1391, .iconst 2, 0, 0), (1392, .iadd, 0, 0), (1393, .iaload, 0, 0), (1394, .aload_n 0, 0, 0), (1395, .iload_n 3, 0, 0), (1396, .iconst 3, 0, 0), (1397, .iadd, 0, 0), (1398, .iaload, 0, 0), (1399, .aload_n 0, 0, 0), (1400, .iload_n 3, 0, 0), (1401, .iconst 4, 0, 0), (1402, .iadd, 0, 0), (1403, .iaload, 0, 0), (1404, .aload_n 0, 0, 0), (1405, .iload_n 3, 0, 0), (1406, .iconst 5, 0, 0), (1407, .iadd, 0, 0), (1408, .iaload, 0, 0), (1409, .invokevirtual 168, 97, 6)]
theorem q_ck215_39 : q_ckL 215 q_tt215_39 = true := by decide +kernel
def q_tt215_40 : List (Nat × q_I) := [(1412, .aload_n 2, 0, 0), (1413, .aload_n 0, 0, 0), (1414, .iload_n 3, 0, 0), (1415, .iconst 1, 0, 0), (1416, .iadd, 0, 0), (1417, .iaload, 0, 0), (1418, .aload_n 0, 0, 0), (1419, .iload_n 3, 0, 0), (1420, .iconst 2, 0, 0), (1421, .iadd, 0, 0), (1422, .iaload, 0, 0), (1423, .aload_n 0, 0, 0), (1424, .iload_n 3, 0, 0), (1425, .iconst 3, 0, 0), (1426, .iadd, 0, 0), (1427, .iaload, 0, 0), (1428, .aload_n 0, 0, 0), (1429, .iload_n 3, 0, 0), (1430, .iconst 4, 0, 0), (1431, .iadd, 0, 0), (1432, .iaload, 0, 0), (1433, .aload_n 0, 0, 0), (1434, .iload_n 3, 0, 0), (1435, .iconst 5, 0, 0), (1436, .iadd, 0, 0)]
theorem q_ck215_40 : q_ckL 215 q_tt215_40 = true := by decide +kernel
def q_tt215_41 : List (Nat × q_I) := [(1437, .iaload, 0, 0), (1438, .invokevirtual 172, 197, 6), (1441, .if_icmp .eq 91, 0, 0), (1444, .iconst 0, 0, 0), (1445, .ireturn, 0, 0), (1446, .aload_n 1, 0, 0), (1447, .aload_n 0, 0, 0), (1448, .iload_n 3, 0, 0), (1449, .iconst 1, 0, 0), (1450, .iadd, 0, 0), (1451, .iaload, 0, 0), (1452, .aload_n 0, 0, 0), (1453, .iload_n 3, 0, 0), (1454, .iconst 2, 0, 0), (1455, .iadd, 0, 0), (1456, .iaload, 0, 0), (1457, .aload_n 0, 0, 0), (1458, .iload_n 3, 0, 0), (1459, .iconst 3, 0, 0), (1460, .iadd, 0, 0), (1461, .iaload, 0, 0), (1462, .aload_n 0, 0, 0), (1463, .iload_n 3, 0, 0), (1464, .iconst 4, 0, 0), (1465, .iadd, 0, 0)]
theorem q_ck215_41 : q_ckL 215 q_tt215_41 = true := by decide +kernel
def q_tt215_42 : List (Nat × q_I) := [(1466, .iaload, 0, 0), (1467, .invokevirtual 173, 98, 5), (1470, .aload_n 2, 0, 0), (1471, .aload_n 0, 0, 0), (1472, .iload_n 3, 0, 0), (1473, .iconst 1, 0, 0), (1474, .iadd, 0, 0), (1475, .iaload, 0, 0), (1476, .aload_n 0, 0, 0), (1477, .iload_n 3, 0, 0), (1478, .iconst 2, 0, 0), (1479, .iadd, 0, 0), (1480, .iaload, 0, 0), (1481, .aload_n 0, 0, 0), (1482, .iload_n 3, 0, 0), (1483, .iconst 3, 0, 0), (1484, .iadd, 0, 0), (1485, .iaload, 0, 0), (1486, .aload_n 0, 0, 0), (1487, .iload_n 3, 0, 0), (1488, .iconst 4, 0, 0), (1489, .iadd, 0, 0), (1490, .iaload, 0, 0), (1491, .invokevirtual 177, 198, 5), (1494, .if_icmp .eq 38, 0, 0)]
theorem q_ck215_42 : q_ckL 215 q_tt215_42 = true := by decide +kernel
def q_tt215_43 : List (Nat × q_I) := [(1497, .iconst 0, 0, 0), (1498, .ireturn, 0, 0), (1499, .aload_n 1, 0, 0), (1500, .aload_n 0, 0, 0), (1501, .iload_n 3, 0, 0), (1502, .iconst 1, 0, 0), (1503, .iadd, 0, 0), (1504, .iaload, 0, 0), (1505, .aload_n 0, 0, 0), (1506, .iload_n 3, 0, 0), (1507, .iconst 2, 0, 0), (1508, .iadd, 0, 0), (1509, .iaload, 0, 0), (1510, .invokevirtual 178, 99, 3), (1513, .aload_n 2, 0, 0), (1514, .aload_n 0, 0, 0), (1515, .iload_n 3, 0, 0), (1516, .iconst 1, 0, 0), (1517, .iadd, 0, 0), (1518, .iaload, 0, 0), (1519, .aload_n 0, 0, 0), (1520, .iload_n 3, 0, 0), (1521, .iconst 2, 0, 0), (1522, .iadd, 0, 0), (1523, .iaload, 0, 0)]
theorem q_ck215_43 : q_ckL 215 q_tt215_43 = true := by decide +kernel
def q_tt215_44 : List (Nat × q_I) := [(1524, .invokevirtual 181, 200, 3), (1527, .if_icmp .eq 5, 0, 0), (1530, .iconst 0, 0, 0), (1531, .ireturn, 0, 0), (1532, .iinc 3 7, 0, 0), (1535, .goto (-1517), 0, 0), (1538, .iconst 1, 0, 0), (1539, .ireturn, 0, 0)]
theorem q_ck215_44 : q_ckL 215 q_tt215_44 = true := by decide +kernel
theorem q_tt215 : q_code 215 = q_tt215_0 ++ (q_tt215_1 ++ (q_tt215_2 ++ (q_tt215_3 ++ (q_tt215_4 ++ (q_tt215_5 ++ (q_tt215_6 ++ (q_tt215_7 ++ (q_tt215_8 ++ (q_tt215_9 ++ (q_tt215_10 ++ (q_tt215_11 ++ (q_tt215_12 ++ (q_tt215_13 ++ (q_tt215_14 ++ (q_tt215_15 ++ (q_tt215_16 ++ (q_tt215_17 ++ (q_tt215_18 ++ (q_tt215_19 ++ (q_tt215_20 ++ (q_tt215_21 ++ (q_tt215_22 ++ (q_tt215_23 ++ (q_tt215_24 ++ (q_tt215_25 ++ (q_tt215_26 ++ (q_tt215_27 ++ (q_tt215_28 ++ (q_tt215_29 ++ (q_tt215_30 ++ (q_tt215_31 ++ (q_tt215_32 ++ (q_tt215_33 ++ (q_tt215_34 ++ (q_tt215_35 ++ (q_tt215_36 ++ (q_tt215_37 ++ (q_tt215_38 ++ (q_tt215_39 ++ (q_tt215_40 ++ (q_tt215_41 ++ (q_tt215_42 ++ (q_tt215_43 ++ (q_tt215_44)))))))))))))))))))))))))))))))))))))))))))) := by decide +kernel
theorem q_ck215 : q_ck 215 = true := by unfold q_ck; rw [q_tt215]; exact q_ckL_app q_ck215_0 (q_ckL_app q_ck215_1 (q_ckL_app q_ck215_2 (q_ckL_app q_ck215_3 (q_ckL_app q_ck215_4 (q_ckL_app q_ck215_5 (q_ckL_app q_ck215_6 (q_ckL_app q_ck215_7 (q_ckL_app q_ck215_8 (q_ckL_app q_ck215_9 (q_ckL_app q_ck215_10 (q_ckL_app q_ck215_11 (q_ckL_app q_ck215_12 (q_ckL_app q_ck215_13 (q_ckL_app q_ck215_14 (q_ckL_app q_ck215_15 (q_ckL_app q_ck215_16 (q_ckL_app q_ck215_17 (q_ckL_app q_ck215_18 (q_ckL_app q_ck215_19 (q_ckL_app q_ck215_20 (q_ckL_app q_ck215_21 (q_ckL_app q_ck215_22 (q_ckL_app q_ck215_23 (q_ckL_app q_ck215_24 (q_ckL_app q_ck215_25 (q_ckL_app q_ck215_26 (q_ckL_app q_ck215_27 (q_ckL_app q_ck215_28 (q_ckL_app q_ck215_29 (q_ckL_app q_ck215_30 (q_ckL_app q_ck215_31 (q_ckL_app q_ck215_32 (q_ckL_app q_ck215_33 (q_ckL_app q_ck215_34 (q_ckL_app q_ck215_35 (q_ckL_app q_ck215_36 (q_ckL_app q_ck215_37 (q_ckL_app q_ck215_38 (q_ckL_app q_ck215_39 (q_ckL_app q_ck215_40 (q_ckL_app q_ck215_41 (q_ckL_app q_ck215_42 (q_ckL_app q_ck215_43 (q_ck215_44))))))))))))))))))))))))))))))))))))))))))))
theorem q_ckc0 (x : Nat) (h1 : 0 ≤ x) (h2 : x < 20) : q_ck x = true := by
  rcases (show x = 0 ∨ x = 1 ∨ x = 2 ∨ x = 3 ∨ x = 4 ∨ x = 5 ∨ x = 6 ∨ x = 7 ∨ x = 8 ∨ x = 9 ∨ x = 10 ∨ x = 11 ∨ x = 12 ∨ x = 13 ∨ x = 14 ∨ x = 15 ∨ x = 16 ∨ x = 17 ∨ x = 18 ∨ x = 19 by omega) with rfl | rfl | rfl | rfl | rfl | rfl | rfl | rfl | rfl | rfl | rfl | rfl | rfl | rfl | rfl | rfl | rfl | rfl | rfl | rfl
  · exact q_ck0
  · exact q_ck1
  · exact q_ck2
  · exact q_ck3
  · exact q_ck4
  · exact q_ck5
  · exact q_ck6
  · exact q_ck7
  · exact q_ck8
  · exact q_ck9
  · exact q_ck10
  · exact q_ck11
  · exact q_ck12
  · exact q_ck13
  · exact q_ck14
  · exact q_ck15
  · exact q_ck16
  · exact q_ck17
  · exact q_ck18
  · exact q_ck19
theorem q_ckc1 (x : Nat) (h1 : 20 ≤ x) (h2 : x < 40) : q_ck x = true := by
  rcases (show x = 20 ∨ x = 21 ∨ x = 22 ∨ x = 23 ∨ x = 24 ∨ x = 25 ∨ x = 26 ∨ x = 27 ∨ x = 28 ∨ x = 29 ∨ x = 30 ∨ x = 31 ∨ x = 32 ∨ x = 33 ∨ x = 34 ∨ x = 35 ∨ x = 36 ∨ x = 37 ∨ x = 38 ∨ x = 39 by omega) with rfl | rfl | rfl | rfl | rfl | rfl | rfl | rfl | rfl | rfl | rfl | rfl | rfl | rfl | rfl | rfl | rfl | rfl | rfl | rfl
  · exact q_ck20
  · exact q_ck21
  · exact q_ck22
  · exact q_ck23
  · exact q_ck24
  · exact q_ck25
  · exact q_ck26
  · exact q_ck27
  · exact q_ck28
  · exact q_ck29
  · exact q_ck30
  · exact q_ck31
  · exact q_ck32
  · exact q_ck33
  · exact q_ck34
  · exact q_ck35
  · exact q_ck36
  · exact q_ck37
  · exact q_ck38
  · exact q_ck39
theorem q_ckc2 (x : Nat) (h1 : 40 ≤ x) (h2 : x < 60) : q_ck x = true := by
  rcases (show x = 40 ∨ x = 41 ∨ x = 42 ∨ x = 43 ∨ x = 44 ∨ x = 45 ∨ x = 46 ∨ x = 47 ∨ x = 48 ∨ x = 49 ∨ x = 50 ∨ x = 51 ∨ x = 52 ∨ x = 53 ∨ x = 54 ∨ x = 55 ∨ x = 56 ∨ x = 57 ∨ x = 58 ∨ x = 59 by omega) with rfl | rfl | rfl | rfl | rfl | rfl | rfl | rfl | rfl | rfl | rfl | rfl | rfl | rfl | rfl | rfl | rfl | rfl | rfl | rfl
  · exact q_ck40
  · exact q_ck41
  · exact q_ck42
  · exact q_ck43
  · exact q_ck44
  · exact q_ck45
  · exact q_ck46
  · exact q_ck47
  · exact q_ck48
  · exact q_ck49
  · exact q_ck50
  · exact q_ck51
  · exact q_ck52
  · exact q_ck53
  · exact q_ck54
  · exact q_ck55
  · exact q_ck56
  · exact q_ck57
  · exact q_ck58
  · exact q_ck59
theorem q_ckc3 (x : Nat) (h1 : 60 ≤ x) (h2 : x < 80) : q_ck x = true := by
  rcases (show x = 60 ∨ x = 61 ∨ x = 62 ∨ x = 63 ∨ x = 64 ∨ x = 65 ∨ x = 66 ∨ x = 67 ∨ x = 68 ∨ x = 69 ∨ x = 70 ∨ x = 71 ∨ x = 72 ∨ x = 73 ∨ x = 74 ∨ x = 75 ∨ x = 76 ∨ x = 77 ∨ x = 78 ∨ x = 79 by omega) with rfl | rfl | rfl | rfl | rfl | rfl | rfl | rfl | rfl | rfl | rfl | rfl | rfl | rfl | rfl | rfl | rfl | rfl | rfl | rfl
  · exact q_ck60
  · exact q_ck61
  · exact q_ck62
  · exact q_ck63
  · exact q_ck64
  · exact q_ck65
  · exact q_ck66
  · exact q_ck67
  · exact q_ck68
  · exact q_ck69
  · exact q_ck70
  · exact q_ck71
  · exact q_ck72
  · exact q_ck73
  · exact q_ck74
  · exact q_ck75
  · exact q_ck76
  · exact q_ck77
  · exact q_ck78
  · exact q_ck79
theorem q_ckc4 (x : Nat) (h1 : 80 ≤ x) (h2 : x < 100) : q_ck x = true := by
  rcases (show x = 80 ∨ x = 81 ∨ x = 82 ∨ x = 83 ∨ x = 84 ∨ x = 85 ∨ x = 86 ∨ x = 87 ∨ x = 88 ∨ x = 89 ∨ x = 90 ∨ x = 91 ∨ x = 92 ∨ x = 93 ∨ x = 94 ∨ x = 95 ∨ x = 96 ∨ x = 97 ∨ x = 98 ∨ x = 99 by omega) with rfl | rfl | rfl | rfl | rfl | rfl | rfl | rfl | rfl | rfl | rfl | rfl | rfl | rfl | rfl | rfl | rfl | rfl | rfl | rfl
  · exact q_ck80
  · exact q_ck81
  · exact q_ck82
  · exact q_ck83
  · exact q_ck84
  · exact q_ck85
  · exact q_ck86
  · exact q_ck87
  · exact q_ck88
  · exact q_ck89
  · exact q_ck90
  · exact q_ck91
  · exact q_ck92
  · exact q_ck93
  · exact q_ck94
  · exact q_ck95
  · exact q_ck96
  · exact q_ck97
  · exact q_ck98
  · exact q_ck99
theorem q_ckc5 (x : Nat) (h1 : 100 ≤ x) (h2 : x < 120) : q_ck x = true := by
  rcases (show x = 100 ∨ x = 101 ∨ x = 102 ∨ x = 103 ∨ x = 104 ∨ x = 105 ∨ x = 106 ∨ x = 107 ∨ x = 108 ∨ x = 109 ∨ x = 110 ∨ x = 111 ∨ x = 112 ∨ x = 113 ∨ x = 114 ∨ x = 115 ∨ x = 116 ∨ x = 117 ∨ x = 118 ∨ x = 119 by omega) with rfl | rfl | rfl | rfl | rfl | rfl | rfl | rfl | rfl | rfl | rfl | rfl | rfl | rfl | rfl | rfl | rfl | rfl | rfl | rfl
  · exact q_ck100
  · exact q_ck101
  · exact q_ck102
  · exact q_ck103
  · exact q_ck104
  · exact q_ck105
  · exact q_ck106
  · exact q_ck107
  · exact q_ck108
  · exact q_ck109
  · exact q_ck110
  · exact q_ck111
  · exact q_ck112
  · exact q_ck113
  · exact q_ck114
  · exact q_ck115
  · exact q_ck116
  · exact q_ck117
  · exact q_ck118
  · exact q_ck119
theorem q_ckc6 (x : Nat) (h1 : 120 ≤ x) (h2 : x < 140) : q_ck x = true := by
  rcases (show x = 120 ∨ x = 121 ∨ x = 122 ∨ x = 123 ∨ x = 124 ∨ x = 125 ∨ x = 126 ∨ x = 127 ∨ x = 128 ∨ x = 129 ∨ x = 130 ∨ x = 131 ∨ x = 132 ∨ x = 133 ∨ x = 134 ∨ x = 135 ∨ x = 136 ∨ x = 137 ∨ x = 138 ∨ x = 139 by omega) with rfl | rfl | rfl | rfl | rfl | rfl | rfl | rfl | rfl | rfl | rfl | rfl | rfl | rfl | rfl | rfl | rfl | rfl | rfl | rfl
  · exact q_ck120
  · exact q_ck121
  · exact q_ck122
  · exact q_ck123
  · exact q_ck124
  · exact q_ck125
  · exact q_ck126
  · exact q_ck127
  · exact q_ck128
  · exact q_ck129
  · exact q_ck130
  · exact q_ck131
  · exact q_ck132
  · exact q_ck133
  · exact q_ck134
  · exact q_ck135
  · exact q_ck136
  · exact q_ck137
  · exact q_ck138
  · exact q_ck139
theorem q_ckc7 (x : Nat) (h1 : 140 ≤ x) (h2 : x < 160) : q_ck x = true := by
  rcases (show x = 140 ∨ x = 141 ∨ x = 142 ∨ x = 143 ∨ x = 144 ∨ x = 145 ∨ x = 146 ∨ x = 147 ∨ x = 148 ∨ x = 149 ∨ x = 150 ∨ x = 151 ∨ x = 152 ∨ x = 153 ∨ x = 154 ∨ x = 155 ∨ x = 156 ∨ x = 157 ∨ x = 158 ∨ x = 159 by omega) with rfl | rfl | rfl | rfl | rfl | rfl | rfl | rfl | rfl | rfl | rfl | rfl | rfl | rfl | rfl | rfl | rfl | rfl | rfl | rfl
  · exact q_ck140
  · exact q_ck141
  · exact q_ck142
  · exact q_ck143
  · exact q_ck144
  · exact q_ck145
  · exact q_ck146
  · exact q_ck147
  · exact q_ck148
  · exact q_ck149
  · exact q_ck150
  · exact q_ck151
  · exact q_ck152
  · exact q_ck153
  · exact q_ck154
  · exact q_ck155
  · exact q_ck156
  · exact q_ck157
  · exact q_ck158
  · exact q_ck159
theorem q_ckc8 (x : Nat) (h1 : 160 ≤ x) (h2 : x < 180) : q_ck x = true := by
  rcases (show x = 160 ∨ x = 161 ∨ x = 162 ∨ x = 163 ∨ x = 164 ∨ x = 165 ∨ x = 166 ∨ x = 167 ∨ x = 168 ∨ x = 169 ∨ x = 170 ∨ x = 171 ∨ x = 172 ∨ x = 173 ∨ x = 174 ∨ x = 175 ∨ x = 176 ∨ x = 177 ∨ x = 178 ∨ x = 179 by omega) with rfl | rfl | rfl | rfl | rfl | rfl | rfl | rfl | rfl | rfl | rfl | rfl | rfl | rfl | rfl | rfl | rfl | rfl | rfl | rfl
  · exact q_ck160
  · exact q_ck161
  · exact q_ck162
  · exact q_ck163
  · exact q_ck164
  · exact q_ck165
  · exact q_ck166
  · exact q_ck167
  · exact q_ck168
  · exact q_ck169
  · exact q_ck170
  · exact q_ck171
  · exact q_ck172
  · exact q_ck173
  · exact q_ck174
  · exact q_ck175
  · exact q_ck176
  · exact q_ck177
  · exact q_ck178
  · exact q_ck179
theorem q_ckc9 (x : Nat) (h1 : 180 ≤ x) (h2 : x < 200) : q_ck x = true := by
  rcases (show x = 180 ∨ x = 181 ∨ x = 182 ∨ x = 183 ∨ x = 184 ∨ x = 185 ∨ x = 186 ∨ x = 187 ∨ x = 188 ∨ x = 189 ∨ x = 190 ∨ x = 191 ∨ x = 192 ∨ x = 193 ∨ x = 194 ∨ x = 195 ∨ x = 196 ∨ x = 197 ∨ x = 198 ∨ x = 199 by omega) with rfl | rfl | rfl | rfl | rfl | rfl | rfl | rfl | rfl | rfl | rfl | rfl | rfl | rfl | rfl | rfl | rfl | rfl | rfl | rfl
  · exact q_ck180
  · exact q_ck181
  · exact q_ck182
  · exact q_ck183
  · exact q_ck184
  · exact q_ck185
  · exact q_ck186
  · exact q_ck187
  · exact q_ck188
  · exact q_ck189
  · exact q_ck190
  · exact q_ck191
  · exact q_ck192
  · exact q_ck193
  · exact q_ck194
  · exact q_ck195
  · exact q_ck196
  · exact q_ck197
  · exact q_ck198
  · exact q_ck199
theorem q_ckc10 (x : Nat) (h1 : 200 ≤ x) (h2 : x < 216) : q_ck x = true := by
  rcases (show x = 200 ∨ x = 201 ∨ x = 202 ∨ x = 203 ∨ x = 204 ∨ x = 205 ∨ x = 206 ∨ x = 207 ∨ x = 208 ∨ x = 209 ∨ x = 210 ∨ x = 211 ∨ x = 212 ∨ x = 213 ∨ x = 214 ∨ x = 215 by omega) with rfl | rfl | rfl | rfl | rfl | rfl | rfl | rfl | rfl | rfl | rfl | rfl | rfl | rfl | rfl | rfl
  · exact q_ck200
  · exact q_ck201
  · exact q_ck202
  · exact q_ck203
  · exact q_ck204
  · exact q_ck205
  · exact q_ck206
  · exact q_ck207
  · exact q_ck208
  · exact q_ck209
  · exact q_ck210
  · exact q_ck211
  · exact q_ck212
  · exact q_ck213
  · exact q_ck214
  · exact q_ck215
theorem q_cks (x : Nat) (h : x < 216) : q_ck x = true := by
  rcases (show (0 ≤ x ∧ x < 20) ∨ (20 ≤ x ∧ x < 40) ∨ (40 ≤ x ∧ x < 60) ∨ (60 ≤ x ∧ x < 80) ∨ (80 ≤ x ∧ x < 100) ∨ (100 ≤ x ∧ x < 120) ∨ (120 ≤ x ∧ x < 140) ∨ (140 ≤ x ∧ x < 160) ∨ (160 ≤ x ∧ x < 180) ∨ (180 ≤ x ∧ x < 200) ∨ (200 ≤ x ∧ x < 216) by omega) with ⟨h1, h2⟩ | ⟨h1, h2⟩ | ⟨h1, h2⟩ | ⟨h1, h2⟩ | ⟨h1, h2⟩ | ⟨h1, h2⟩ | ⟨h1, h2⟩ | ⟨h1, h2⟩ | ⟨h1, h2⟩ | ⟨h1, h2⟩ | ⟨h1, h2⟩
  · exact q_ckc0 x h1 h2
  · exact q_ckc1 x h1 h2
  · exact q_ckc2 x h1 h2
  · exact q_ckc3 x h1 h2
  · exact q_ckc4 x h1 h2
  · exact q_ckc5 x h1 h2
  · exact q_ckc6 x h1 h2
  · exact q_ckc7 x h1 h2
  · exact q_ckc8 x h1 h2
  · exact q_ckc9 x h1 h2
  · exact q_ckc10 x h1 h2
