/-! links: by the class whose rows name them -/
def zn_ : List String := ["ConfettiMinutes$Flights", "ConfettiMinutes$Hearsay", "ConfettiMinutes$Ledger", "ConfettiMinutes$Past", "ConfettiMinutes$Row", "ConfettiMinutes$Rule", "ConfettiMinutes$Script", "ConfettiMinutes$Shares", "ConfettiMinutes$Sights", "ConfettiMinutes$Town", "ConfettiMinutes$Weather", "ConfettiMinutes", "ConfettiMinutesModel", "java/lang/Integer", "ConfettiMinutesLaw"]
def zn (o : Nat) : String := zn_.getD o ""
set_option maxRecDepth 100000 in
def zl_f : List (List (Nat × Nat × Nat)) := [[(12, 0, 0)],
  [(24, 9, 4), (14, 1, 0)],
  [(25, 2, 2), (21, 2, 1), (11, 2, 0)],
  [(13, 3, 0), (17, 3, 1), (21, 3, 3), (25, 3, 2), (40, 3, 4)],
  [(13, 4, 1), (9, 4, 0)],
  [(40, 5, 9), (31, 5, 6), (24, 5, 4), (11, 5, 0), (15, 5, 1), (21, 5, 3), (86, 9, 8), (37, 5, 8), (34, 5, 7), (28, 5, 5), (18, 5, 2)],
  [(15, 6, 1), (11, 6, 0)],
  [(21, 9, 3), (9, 7, 0), (34, 9, 4), (18, 7, 2), (15, 7, 1), (82, 7, 3)],
  [(14, 8, 0), (20, 8, 1)],
  [(18, 9, 2), (9, 9, 0), (15, 9, 1), (31, 9, 3), (34, 9, 4), (37, 9, 5), (40, 9, 6), (21, 9, 7), (43, 9, 8)],
  [(22, 9, 4), (32, 9, 8), (9, 10, 0), (15, 10, 1), (45, 9, 7), (35, 10, 2)],
  [(10, 11, 0), (85, 11, 12), (81, 11, 11), (26, 11, 2), (121, 9, 5), (125, 9, 6), (160, 9, 4), (30, 11, 3), (46, 11, 6), (19, 11, 1), (39, 11, 5), (33, 11, 4), (257, 9, 7), (53, 11, 7), (60, 11, 8), (308, 8, 0), (67, 11, 9), (337, 1, 0), (74, 11, 10), (347, 0, 0), (379, 9, 3), (382, 9, 8)],
  [(11, 12, 2), (15, 12, 1), (32, 12, 7), (120, 12, 3), (28, 12, 6), (131, 12, 4), (157, 12, 10), (38, 12, 9), (160, 12, 11), (172, 12, 12), (197, 12, 15), (41, 12, 14), (210, 12, 22), (213, 12, 5), (47, 12, 17), (223, 12, 19), (163, 12, 13), (44, 12, 16), (251, 12, 18), (50, 12, 20), (53, 12, 21), (56, 12, 23), (59, 12, 24), (370, 12, 29), (62, 12, 25), (65, 12, 26), (68, 12, 27), (71, 12, 28), (35, 12, 8), (404, 12, 32), (77, 12, 31), (74, 12, 30), (418, 12, 33), (80, 12, 34), (83, 12, 35), (428, 12, 36), (86, 12, 37), (89, 12, 38), (442, 12, 39), (92, 12, 40), (95, 12, 41), (98, 12, 42), (101, 12, 43), (104, 12, 44), (107, 12, 45), (459, 12, 46), (110, 12, 47), (114, 12, 48), (117, 12, 49)],
  [],
  []]
set_option maxRecDepth 100000 in
def zl_p : List (List (Nat × Nat × Nat × Nat × Nat)) := [[(12, 0, 0, 2, 1)],
  [(14, 1, 0, 2, 1)],
  [(11, 2, 0, 2, 1), (21, 2, 1, 0, 1), (25, 2, 2, 0, 0)],
  [(13, 3, 0, 2, 1), (17, 3, 1, 2, 1), (25, 3, 2, 0, 0), (21, 3, 3, 0, 0), (40, 3, 4, 0, 0)],
  [(9, 4, 0, 2, 1), (13, 4, 1, 0, 0)],
  [(11, 5, 0, 2, 1), (15, 5, 1, 2, 1), (18, 5, 2, 2, 1), (21, 5, 3, 2, 1), (24, 5, 4, 0, 0), (28, 5, 5, 0, 0), (31, 5, 6, 0, 0), (34, 5, 7, 0, 0), (37, 5, 8, 0, 0), (40, 5, 9, 1, 0)],
  [(11, 6, 0, 2, 1), (15, 6, 1, 0, 0)],
  [(9, 7, 0, 2, 1), (15, 7, 1, 2, 1), (18, 7, 2, 2, 1), (82, 7, 3, 0, 0)],
  [(14, 8, 0, 2, 1), (20, 8, 1, 2, 1)],
  [(9, 9, 0, 2, 1), (15, 9, 1, 2, 1), (18, 9, 2, 2, 1), (21, 9, 7, 0, 0), (31, 9, 3, 0, 0), (34, 9, 4, 0, 0), (37, 9, 5, 0, 0), (40, 9, 6, 0, 0), (43, 9, 8, 0, 0)],
  [(9, 10, 0, 2, 1), (15, 10, 1, 2, 1), (32, 9, 8, 0, 0), (35, 10, 2, 0, 0), (45, 9, 7, 0, 0)],
  [(10, 11, 0, 2, 1), (19, 11, 1, 2, 1), (26, 11, 2, 2, 1), (30, 11, 3, 2, 1), (33, 11, 4, 2, 1), (39, 11, 5, 2, 1), (46, 11, 6, 2, 1), (53, 11, 7, 2, 1), (60, 11, 8, 2, 1), (67, 11, 9, 2, 1), (74, 11, 10, 2, 1), (81, 11, 11, 2, 0), (85, 11, 12, 2, 0), (257, 9, 7, 0, 0)],
  [(3, 12, 0, 0, 0), (15, 12, 1, 0, 0), (11, 12, 2, 2, 1), (28, 12, 6, 2, 1), (32, 12, 7, 2, 1), (35, 12, 8, 2, 1), (38, 12, 9, 2, 1), (41, 12, 14, 2, 1), (44, 12, 16, 2, 1), (47, 12, 17, 2, 1), (50, 12, 20, 2, 1), (53, 12, 21, 2, 1), (56, 12, 23, 2, 1), (59, 12, 24, 2, 1), (62, 12, 25, 2, 1), (65, 12, 26, 2, 1), (68, 12, 27, 2, 1), (71, 12, 28, 2, 1), (74, 12, 30, 2, 1), (77, 12, 31, 2, 1), (80, 12, 34, 2, 1), (83, 12, 35, 2, 1), (86, 12, 37, 2, 1), (89, 12, 38, 2, 1), (92, 12, 40, 2, 1), (95, 12, 41, 2, 1), (98, 12, 42, 2, 1), (101, 12, 43, 2, 1), (104, 12, 44, 2, 1), (107, 12, 45, 2, 1), (110, 12, 47, 2, 1), (114, 12, 48, 2, 1), (117, 12, 49, 2, 1), (157, 12, 10, 0, 0), (160, 12, 11, 0, 0), (163, 12, 13, 0, 0), (172, 12, 12, 0, 0), (197, 12, 15, 0, 0), (210, 12, 22, 0, 0), (213, 12, 5, 0, 0), (120, 12, 3, 0, 0), (131, 12, 4, 0, 0), (223, 12, 19, 0, 0), (251, 12, 18, 0, 0), (370, 12, 29, 0, 0), (404, 12, 32, 0, 0), (418, 12, 33, 0, 0), (428, 12, 36, 0, 0), (442, 12, 39, 0, 0), (459, 12, 46, 0, 0)],
  [],
  []]
set_option maxRecDepth 100000 in
def zl_n : List (List (Nat × Nat × List Nat)) := [[(7, 2, [2, 0, 0])],
  [(9, 2, [2, 0, 0])],
  [],
  [(11, 9, [2, 2, 2, 0, 0, 0, 0, 0, 0])],
  [],
  [],
  [],
  [],
  [(9, 2, [2, 0, 0])],
  [],
  [],
  [(7, 6, [2, 0]), (16, 4, [2, 0]), (23, 9, [2, 2, 2, 0, 0, 0, 0, 0, 0]), (36, 3, [2, 2, 0, 0, 0]), (43, 10, [2, 2, 0]), (50, 7, [2, 2, 2, 0]), (57, 8, [2, 2]), (64, 1, [2]), (71, 0, [2]), (78, 5, [2, 2, 2, 2, 0, 0, 0, 0, 0, 1])],
  [],
  [],
  [(8, 11, [2, 2, 2, 2, 2, 2, 2, 2, 2, 2, 2, 2, 2]), (26, 12, [0, 0, 2, 0, 0, 0, 2, 2, 2, 2, 0, 0, 0, 0, 2, 0, 2, 2, 0, 0, 2, 2, 0, 2, 2, 2, 2, 2, 2, 0, 2, 2, 0, 0, 2, 2, 0, 2, 2, 0, 2, 2, 2, 2, 2, 2, 0, 2, 2, 2])]]
set_option maxRecDepth 100000 in
def zl_a : List (List (Nat × Nat)) := [[],
  [],
  [],
  [(11, 209)],
  [],
  [],
  [],
  [],
  [],
  [],
  [],
  [],
  [],
  [],
  []]
set_option maxRecDepth 100000 in
def zl_k : List (List (Nat × Nat)) := [[],
  [],
  [],
  [],
  [],
  [],
  [],
  [],
  [],
  [],
  [(84, 1103515245)],
  [],
  [(424, 1000000), (462, 1103515245)],
  [(265, 1431655765), (266, 858993459), (267, 252645135)],
  []]
set_option maxRecDepth 100000 in
def zl_kl : List (List (Nat × Nat)) := [[],
  [],
  [],
  [],
  [],
  [],
  [],
  [],
  [],
  [],
  [],
  [],
  [(175, 48), (177, 57), (273, 5), (278, 10), (280, 19), (295, 2), (300, 3), (317, 7), (330, 18446744073709551613), (347, 60), (390, 30), (438, 18446744073709551596), (440, 20), (454, 18)],
  [],
  []]
set_option maxRecDepth 100000 in
def zl_v : List (List (Nat × Nat × Nat × Nat × List Nat)) := [[(25, 6, 2, 1, [0, 0]), (29, 15, 1, 3, [0, 0]), (33, 17, 3, 3, [0, 0])],
  [(30, 11, 3, 2, [0, 0]), (34, 15, 1, 3, [0, 0]), (38, 17, 3, 3, [0, 0]), (46, 90, 2, 10, [0, 0]), (50, 101, 2, 10, [0, 0]), (53, 102, 3, 10, [0, 0]), (56, 104, 3, 10, [0, 0])],
  [],
  [(28, 24, 2, 4, [0, 0]), (32, 81, 2, 10, [0, 0])],
  [(17, 31, 1, 5, [0, 0]), (20, 32, 2, 5, [0, 0]), (24, 34, 3, 5, [0, 0])],
  [(50, 56, 2, 7, [0, 0]), (56, 41, 2, 6, [0, 0]), (60, 42, 2, 6, [0, 0]), (63, 45, 2, 6, [0, 0]), (67, 40, 2, 6, [0, 0]), (78, 89, 2, 10, [0, 0]), (83, 91, 2, 10, [0, 0]), (89, 46, 2, 6, [0, 0]), (102, 47, 2, 6, [0, 0]), (105, 43, 2, 6, [0, 0]), (108, 44, 1, 6, [0, 0])],
  [(19, 56, 2, 7, [0, 0])],
  [(27, 100, 2, 10, [0, 0]), (31, 103, 2, 10, [0, 0]), (37, 66, 2, 8, [0, 0]), (46, 69, 5, 8, [0, 0]), (56, 31, 1, 5, [0, 0]), (61, 70, 3, 8, [0, 0]), (64, 32, 2, 5, [0, 0]), (68, 102, 3, 10, [0, 0]), (75, 101, 2, 10, [0, 0]), (78, 97, 1, 10, [0, 0]), (85, 72, 2, 8, [0, 0]), (89, 75, 2, 8, [0, 0])],
  [(24, 121, 2, 11, [0, 0]), (30, 78, 5, 9, [0, 0]), (34, 15, 1, 3, [0, 0]), (38, 17, 3, 3, [0, 0]), (45, 94, 2, 10, [0, 0]), (51, 122, 5, 11, [0, 0])],
  [(46, 84, 2, 10, [0, 0]), (50, 89, 2, 10, [0, 0]), (54, 91, 2, 10, [0, 0]), (57, 94, 2, 10, [0, 0]), (60, 95, 2, 10, [0, 0]), (67, 98, 2, 10, [0, 0]), (70, 102, 3, 10, [0, 0]), (73, 104, 3, 10, [0, 0]), (77, 105, 2, 10, [0, 0]), (80, 87, 2, 10, [0, 0]), (92, 88, 2, 10, [0, 0]), (95, 110, 3, 10, [0, 0]), (99, 111, 3, 10, [0, 0]), (102, 93, 3, 10, [0, 0]), (105, 100, 2, 10, [0, 0]), (108, 85, 2, 10, [0, 0]), (111, 90, 2, 10, [0, 0]), (119, 92, 3, 10, [0, 0])],
  [(18, 123, 3, 11, [0, 0]), (28, 117, 2, 10, [0, 0]), (38, 124, 2, 11, [0, 0]), (41, 119, 4, 11, [0, 0]), (48, 92, 3, 10, [0, 0]), (52, 91, 2, 10, [0, 0]), (55, 39, 5, 6, [0, 0]), (61, 38, 1, 6, [0, 0]), (69, 121, 2, 11, [0, 0]), (73, 94, 2, 10, [0, 0]), (77, 122, 5, 11, [0, 0]), (81, 93, 3, 10, [0, 0])],
  [(88, 53, 2, 7, [0, 0]), (92, 54, 2, 7, [0, 0]), (96, 181, 4, 12, [0, 0]), (100, 55, 1, 7, [0, 0]), (104, 37, 3, 6, [0, 0]), (108, 84, 2, 10, [0, 0]), (118, 89, 2, 10, [0, 0]), (128, 99, 2, 10, [0, 0]), (131, 100, 2, 10, [0, 0]), (134, 105, 2, 10, [0, 0]), (137, 86, 3, 10, [0, 0]), (145, 91, 2, 10, [0, 0]), (148, 85, 2, 10, [0, 0]), (151, 90, 2, 10, [0, 0]), (154, 106, 2, 10, [0, 0]), (157, 101, 2, 10, [0, 0]), (166, 92, 3, 10, [0, 0]), (170, 81, 2, 10, [0, 0]), (174, 108, 2, 10, [0, 0]), (177, 182, 2, 12, [0, 0]), (180, 109, 3, 10, [0, 0]), (183, 112, 2, 10, [0, 0]), (186, 119, 4, 11, [0, 0]), (190, 96, 1, 10, [0, 0]), (193, 107, 1, 10, [0, 0]), (196, 34, 3, 5, [0, 0]), (200, 113, 3, 10, [0, 0]), (203, 114, 4, 10, [0, 0]), (207, 115, 2, 10, [0, 0]), (210, 116, 2, 10, [0, 0]), (213, 59, 2, 7, [0, 0]), (216, 60, 2, 7, [0, 0]), (219, 183, 2, 12, [0, 0]), (222, 22, 2, 4, [0, 0]), (225, 97, 1, 10, [0, 0]), (228, 23, 2, 4, [0, 0]), (232, 184, 3, 12, [0, 0]), (236, 104, 3, 10, [0, 0]), (239, 102, 3, 10, [0, 0]), (242, 33, 2, 5, [0, 0]), (245, 98, 2, 10, [0, 0]), (248, 32, 2, 5, [0, 0]), (251, 88, 2, 10, [0, 0]), (254, 110, 3, 10, [0, 0]), (265, 103, 2, 10, [0, 0]), (273, 65, 2, 8, [0, 0]), (276, 64, 2, 8, [0, 0]), (279, 67, 2, 8, [0, 0]), (282, 68, 3, 8, [0, 0]), (289, 31, 1, 5, [0, 0]), (292, 71, 3, 8, [0, 0]), (296, 73, 3, 8, [0, 0]), (299, 35, 3, 5, [0, 0]), (302, 72, 2, 8, [0, 0]), (305, 74, 2, 8, [0, 0]), (312, 18, 1, 3, [0, 0]), (318, 94, 2, 10, [0, 0]), (321, 16, 4, 3, [0, 0]), (323, 19, 1, 3, [0, 0]), (326, 77, 4, 9, [0, 0]), (330, 79, 6, 9, [0, 0]), (338, 10, 2, 2, [0, 0]), (348, 5, 1, 1, [0, 0]), (368, 120, 5, 11, [0, 0]), (372, 25, 3, 4, [0, 0]), (376, 26, 3, 4, [0, 0]), (385, 180, 2, 12, [0, 0]), (388, 29, 1, 5, [0, 0]), (391, 30, 2, 5, [0, 0]), (395, 15, 1, 3, [0, 0]), (396, 21, 1, 4, [0, 0]), (397, 52, 1, 7, [0, 0]), (400, 58, 5, 7, [0, 0]), (404, 57, 2, 7, [0, 0]), (407, 82, 2, 10, [0, 0]), (411, 83, 2, 10, [0, 0]), (414, 27, 1, 4, [0, 0]), (417, 56, 2, 7, [0, 0])],
  [(18, 199, 2, 13, [0, 0]), (127, 202, 2, 13, [0, 0]), (154, 212, 4, 13, [0, 0]), (189, 219, 1, 13, [0, 0]), (193, 217, 2, 13, [0, 0]), (200, 222, 3, 13, [0, 0]), (203, 218, 2, 13, [0, 0]), (206, 223, 4, 13, [0, 0]), (216, 224, 4, 13, [0, 0]), (220, 225, 1, 13, [0, 0]), (226, 229, 1, 13, [0, 0]), (229, 228, 2, 13, [0, 0]), (233, 221, 2, 13, [0, 0]), (238, 220, 2, 13, [0, 0]), (242, 230, 2, 13, [0, 0]), (254, 231, 1, 13, [0, 0]), (257, 232, 3, 13, [0, 0]), (267, 235, 1, 13, [0, 0]), (275, 194, 1, 13, [0, 0]), (286, 238, 2, 13, [0, 0]), (289, 203, 3, 13, [0, 0]), (292, 204, 2, 13, [0, 0]), (297, 241, 2, 13, [0, 0]), (302, 245, 2, 13, [0, 0]), (305, 237, 4, 13, [0, 0]), (308, 248, 2, 13, [0, 0]), (319, 251, 4, 13, [0, 0]), (326, 255, 5, 13, [0, 0]), (332, 244, 1, 13, [0, 0]), (335, 250, 2, 13, [0, 0]), (338, 246, 2, 13, [0, 0]), (341, 252, 3, 13, [0, 0]), (344, 253, 2, 13, [0, 0]), (349, 249, 3, 13, [0, 0]), (355, 213, 2, 13, [0, 0]), (358, 254, 3, 13, [0, 0]), (361, 256, 4, 13, [0, 0]), (364, 257, 2, 13, [0, 0]), (367, 258, 2, 13, [0, 0]), (377, 267, 1, 13, [0, 0]), (380, 268, 2, 13, [0, 0]), (383, 210, 2, 13, [0, 0]), (392, 275, 5, 13, [0, 0]), (395, 279, 2, 13, [0, 0]), (398, 205, 1, 13, [0, 0]), (401, 280, 2, 13, [0, 0]), (407, 282, 4, 13, [0, 0]), (411, 286, 2, 13, [0, 0]), (414, 200, 3, 13, [0, 0]), (421, 291, 1, 13, [0, 0]), (431, 297, 4, 13, [0, 0]), (435, 298, 1, 13, [0, 0]), (448, 305, 2, 13, [0, 0]), (463, 313, 2, 13, [0, 0])],
  [],
  [(29, 126, 2, 12, [0, 0]), (33, 215, 2, 13, [0, 0]), (34, 127, 2, 12, [0, 0]), (38, 216, 2, 13, [0, 0]), (39, 128, 1, 12, [0, 0]), (43, 226, 1, 13, [0, 0]), (44, 129, 1, 12, [0, 0]), (47, 227, 1, 13, [0, 0]), (48, 130, 1, 12, [0, 0]), (51, 233, 1, 13, [0, 0]), (57, 239, 3, 13, [0, 0]), (60, 240, 3, 13, [0, 0]), (63, 242, 3, 13, [0, 0]), (64, 134, 5, 12, [0, 0]), (68, 243, 5, 13, [0, 0]), (69, 135, 2, 12, [0, 0]), (72, 259, 2, 13, [0, 0]), (73, 136, 3, 12, [0, 0]), (76, 260, 3, 13, [0, 0]), (77, 137, 2, 12, [0, 0]), (80, 261, 2, 13, [0, 0]), (81, 138, 2, 12, [0, 0]), (84, 262, 2, 13, [0, 0]), (85, 139, 3, 12, [0, 0]), (88, 263, 3, 13, [0, 0]), (89, 140, 4, 12, [0, 0]), (93, 264, 4, 13, [0, 0]), (94, 141, 2, 12, [0, 0]), (97, 265, 2, 13, [0, 0]), (98, 142, 2, 12, [0, 0]), (101, 266, 2, 13, [0, 0]), (102, 143, 1, 12, [0, 0]), (105, 269, 1, 13, [0, 0]), (106, 144, 1, 12, [0, 0]), (109, 247, 1, 13, [0, 0]), (110, 145, 4, 12, [0, 0]), (113, 270, 4, 13, [0, 0]), (114, 146, 3, 12, [0, 0]), (117, 271, 3, 13, [0, 0]), (118, 147, 1, 12, [0, 0]), (121, 272, 1, 13, [0, 0]), (122, 148, 2, 12, [0, 0]), (125, 273, 2, 13, [0, 0]), (126, 149, 4, 12, [0, 0]), (129, 274, 4, 13, [0, 0]), (130, 150, 3, 12, [0, 0]), (133, 276, 3, 13, [0, 0]), (134, 151, 3, 12, [0, 0]), (137, 277, 3, 13, [0, 0]), (138, 152, 2, 12, [0, 0]), (141, 278, 2, 13, [0, 0]), (142, 153, 1, 12, [0, 0]), (145, 281, 1, 13, [0, 0]), (146, 154, 1, 12, [0, 0]), (149, 283, 1, 13, [0, 0]), (150, 155, 3, 12, [0, 0]), (153, 284, 3, 13, [0, 0]), (154, 156, 1, 12, [0, 0]), (157, 285, 1, 13, [0, 0]), (158, 157, 2, 12, [0, 0]), (161, 287, 2, 13, [0, 0]), (162, 158, 1, 12, [0, 0]), (165, 288, 1, 13, [0, 0]), (166, 159, 4, 12, [0, 0]), (169, 289, 4, 13, [0, 0]), (170, 160, 1, 12, [0, 0]), (173, 290, 1, 13, [0, 0]), (174, 161, 1, 12, [0, 0]), (177, 292, 1, 13, [0, 0]), (178, 162, 1, 12, [0, 0]), (181, 293, 1, 13, [0, 0]), (182, 163, 3, 12, [0, 0]), (185, 295, 3, 13, [0, 0]), (186, 164, 1, 12, [0, 0]), (189, 296, 1, 13, [0, 0]), (190, 165, 1, 12, [0, 0]), (193, 299, 1, 13, [0, 0]), (194, 166, 1, 12, [0, 0]), (197, 300, 1, 13, [0, 0]), (198, 167, 4, 12, [0, 0]), (201, 301, 4, 13, [0, 0]), (202, 168, 4, 12, [0, 0]), (205, 302, 4, 13, [0, 0]), (206, 169, 1, 12, [0, 0]), (209, 303, 1, 13, [0, 0]), (210, 170, 1, 12, [0, 0]), (213, 306, 1, 13, [0, 0]), (214, 171, 1, 12, [0, 0]), (217, 307, 1, 13, [0, 0]), (218, 172, 2, 12, [0, 0]), (221, 308, 2, 13, [0, 0]), (222, 173, 1, 12, [0, 0]), (225, 309, 1, 13, [0, 0]), (226, 174, 2, 12, [0, 0]), (229, 312, 2, 13, [0, 0]), (230, 175, 3, 12, [0, 0]), (233, 314, 3, 13, [0, 0]), (234, 176, 2, 12, [0, 0]), (237, 315, 2, 13, [0, 0]), (238, 177, 2, 12, [0, 0]), (241, 316, 2, 13, [0, 0]), (242, 178, 2, 12, [0, 0]), (245, 317, 2, 13, [0, 0]), (249, 318, 2, 13, [0, 0])]]
set_option maxRecDepth 100000 in
def zl_s : List (List (Nat × Nat × Nat × Nat × List Nat)) := [[(18, 1, 1, 0, [0, 0]), (22, 2, 1, 0, [0, 0]), (37, 4, 3, 0, [0, 0])],
  [(20, 191, 3, 0, [0, 0]), (42, 12, 4, 0, [0, 0])],
  [],
  [(36, 191, 3, 0, [0, 0])],
  [],
  [(71, 50, 3, 0, [0, 0]), (75, 192, 3, 0, [0, 0]), (99, 48, 1, 0, [0, 0]), (112, 49, 1, 0, [0, 0])],
  [(39, 62, 2, 0, [0, 0]), (43, 61, 1, 0, [0, 0])],
  [(41, 322, 1, 0, [0, 0]), (71, 191, 3, 0, [0, 0])],
  [(42, 193, 2, 0, [0, 0])],
  [(63, 193, 2, 0, [0, 0]), (83, 322, 1, 0, [0, 0]), (88, 191, 3, 0, [0, 0])],
  [(65, 192, 3, 0, [0, 0])],
  [(111, 191, 3, 0, [0, 0]), (141, 193, 2, 0, [0, 0]), (163, 185, 2, 0, [0, 0]), (268, 322, 1, 0, [0, 0]), (334, 9, 2, 0, [0, 0]), (341, 13, 4, 0, [0, 0]), (344, 186, 3, 0, [0, 0]), (351, 3, 1, 0, [0, 0]), (354, 1, 1, 0, [0, 0]), (357, 2, 1, 0, [0, 0]), (360, 7, 3, 0, [0, 0]), (362, 187, 1, 0, [0, 0]), (365, 189, 3, 0, [0, 0]), (420, 192, 3, 0, [0, 0]), (423, 188, 2, 0, [0, 0]), (427, 190, 3, 0, [0, 0])],
  [(7, 198, 2, 0, [0, 0]), (123, 195, 3, 0, [0, 0]), (134, 207, 3, 0, [0, 0]), (138, 197, 1, 0, [0, 0]), (142, 208, 3, 0, [0, 0]), (146, 209, 2, 0, [0, 0]), (150, 206, 2, 0, [0, 0]), (261, 234, 3, 0, [0, 0]), (264, 236, 2, 0, [0, 0]), (282, 196, 2, 0, [0, 0]), (312, 322, 1, 0, [0, 0]), (352, 211, 1, 0, [0, 0]), (386, 214, 2, 0, [0, 0]), (425, 294, 1, 0, [0, 0]), (445, 304, 3, 0, [0, 0]), (451, 310, 3, 0, [0, 0]), (456, 311, 3, 0, [0, 0])],
  [],
  []]
set_option maxRecDepth 100000 in
def zl_i : List (List (Nat × Nat × Nat × Nat × List Nat)) := [[(9, 14, 2, 0, [1, 36])],
  [(11, 14, 2, 0, [1, 36])],
  [],
  [(20, 80, 1, 0, [3, 30])],
  [],
  [],
  [],
  [],
  [(11, 14, 2, 0, [1, 36])],
  [],
  [],
  [(9, 51, 1, 0, [1, 80]), (18, 28, 1, 0, [1, 12]), (25, 80, 1, 0, [3, 30]), (38, 20, 1, 0, [74, 720]), (45, 118, 1, 0, [2, 28]), (52, 63, 1, 0, [3, 202]), (59, 76, 1, 0, [3, 47]), (66, 8, 1, 0, [2, 39]), (73, 0, 1, 0, [2, 39]), (80, 36, 1, 0, [4, 127])],
  [],
  [],
  [(25, 125, 1, 0, [118, 1578]), (28, 201, 1, 0, [31, 1502])]]
set_option maxRecDepth 100000 in
def zl_o : List (List (Nat)) := [[1],
  [3],
  [3],
  [3],
  [1],
  [3],
  [3],
  [3],
  [3],
  [3],
  [3],
  [1],
  [22],
  [],
  []]
set_option maxRecDepth 100000 in
def zl_y : List (List (Nat)) := [[],
  [],
  [],
  [],
  [],
  [],
  [],
  [],
  [],
  [25],
  [],
  [],
  [],
  [],
  []]
set_option maxRecDepth 100000 in
def zl_m : List (List (Nat × Nat)) := [[(41, 0)],
  [(60, 0)],
  [(15, 1)],
  [],
  [],
  [(44, 1), (115, 0)],
  [(23, 1)],
  [(50, 0)],
  [(55, 0)],
  [(114, 2)],
  [],
  [(260, 2), (286, 0)],
  [(166, 1), (270, 0), (323, 2)],
  [],
  []]
set_option maxRecDepth 100000 in
def zl_t : List (List (Nat × Nat)) := [[],
  [],
  [],
  [],
  [],
  [(92, 22)],
  [(29, 12), (51, 14), (53, 16), (55, 18), (57, 20)],
  [],
  [],
  [],
  [],
  [],
  [(236, 22), (245, 24), (247, 26), (249, 28), (373, 30), (375, 32)],
  [],
  []]
set_option maxRecDepth 100000 in
def zl_q : List (List (Nat × Nat)) := [[],
  [],
  [],
  [],
  [],
  [(94, 3)],
  [(31, 0), (36, 2), (47, 1)],
  [],
  [],
  [],
  [],
  [],
  [(179, 0), (185, 2)],
  [],
  []]
/-- methods: name, code, locals, answer, own class, cells, slots -/
abbrev ZMt : Type := MethodName × ByteArray × Nat × Option FieldType × Nat × Nat × Nat
def zm_0 : List (Option ZMt) := [some (yX0_init, cX0_init, 1, none, 0, 2, 39), some (yX0_timesWind, cX0_timesWind, 1, (some .int), 0, 0, 0), some (yX0_timesNumber, cX0_timesNumber, 1, (some .int), 0, 0, 0), some (yX0_firstOf, cX0_firstOf, 2, (some .int), 0, 0, 0), some (yX0_wayBy, cX0_wayBy, 3, (some .int), 0, 0, 0), some (yX0_lawsLeft, cX0_lawsLeft, 3, (some .int), 0, 0, 0), some (yX0_suits, cX0_suits, 3, (some .boolean), 0, 0, 0), some (yX0_mostLeft, cX0_mostLeft, 8, (some .int), 0, 0, 0), some (yX1_init, cX1_init, 1, none, 1, 2, 39), some (yX1_isTalk, cX1_isTalk, 2, (some .boolean), 1, 0, 0), some (yX1_peopleLeft, cX1_peopleLeft, 4, (some .int), 1, 0, 0), some (yX1_suits, cX1_suits, 4, (some .boolean), 1, 0, 0), some (yX1_isSo, cX1_isSo, 4, (some .boolean), 1, 0, 0), some (yX1_mostLeft, cX1_mostLeft, 7, (some .int), 1, 0, 0), some (yX2_init, cX2_init, 2, none, 2, 1, 36), some (yX2_size, cX2_size, 1, (some .int), 2, 0, 0)]
def zm_1 : List (Option ZMt) := [some (yX2_add, cX2_add, 5, (some .int), 2, 0, 0), some (yX2_at, cX2_at, 4, (some .int), 2, 0, 0), some (yX2_isFull, cX2_isFull, 1, (some .boolean), 2, 0, 0), some (yX2_empty, cX2_empty, 2, (some .int), 2, 0, 0), some (yX3_init, cX3_init, 2, none, 3, 74, 720), some (yX3_size, cX3_size, 1, (some .int), 3, 0, 0), some (yX3_push, cX3_push, 3, none, 3, 0, 0), some (yX3_pop, cX3_pop, 3, (some .int), 3, 0, 0), some (yX3_deedAt, cX3_deedAt, 3, (some (.object "ConfettiMinutes$Town")), 3, 0, 0), some (yX3_store, cX3_store, 3, (some .boolean), 3, 0, 0), some (yX3_bringBack, cX3_bringBack, 3, (some .boolean), 3, 0, 0), some (yX3_forgetAll, cX3_forgetAll, 1, none, 3, 0, 0), some (yX4_init, cX4_init, 1, none, 4, 1, 12), some (yX4_size, cX4_size, 1, (some .int), 4, 0, 0), some (yX4_at, cX4_at, 2, (some .long), 4, 0, 0), some (yX4_clear, cX4_clear, 1, none, 4, 0, 0)]
def zm_2 : List (Option ZMt) := [some (yX4_add, cX4_add, 3, none, 4, 0, 0), some (yX4_tell, cX4_tell, 3, none, 4, 0, 0), some (yX4_tell_, cX4_tell_, 5, none, 4, 0, 0), some (yX4_tellFraction, cX4_tellFraction, 12, none, 4, 0, 0), some (yX5_init, cX5_init, 1, none, 5, 4, 127), some (yX5_read, cX5_read, 6, (some .int), 5, 0, 0), some (yX5_drift, cX5_drift, 4, (some .int), 5, 0, 0), some (yX5_learn, cX5_learn, 5, none, 5, 0, 0), some (yX5_worth, cX5_worth, 3, (some .int), 5, 0, 0), some (yX5_takesThing, cX5_takesThing, 4, (some .boolean), 5, 0, 0), some (yX5_takesBehind, cX5_takesBehind, 3, (some .boolean), 5, 0, 0), some (yX5_takesDigit, cX5_takesDigit, 2, (some .boolean), 5, 0, 0), some (yX5_closes, cX5_closes, 1, (some .boolean), 5, 0, 0), some (yX5_release, cX5_release, 3, none, 5, 0, 0), some (yX5_hold, cX5_hold, 2, none, 5, 0, 0), some (yX5_emit, cX5_emit, 2, none, 5, 0, 0)]
def zm_3 : List (Option ZMt) := [some (yX5_isDigit, cX5_isDigit, 1, (some .boolean), 5, 0, 0), some (yX5_strengthOf, cX5_strengthOf, 1, (some .int), 5, 0, 0), some (yX5_joined, cX5_joined, 3, (some .int), 5, 0, 0), some (yX6_init, cX6_init, 1, none, 6, 1, 80), some (yX6_length, cX6_length, 1, (some .int), 6, 0, 0), some (yX6_append, cX6_append, 3, (some .int), 6, 0, 0), some (yX6_cut, cX6_cut, 2, (some .boolean), 6, 0, 0), some (yX6_take, cX6_take, 2, (some .int), 6, 0, 0), some (yX6_at, cX6_at, 2, (some .char), 6, 0, 0), some (yX6_digitAt, cX6_digitAt, 2, (some .int), 6, 0, 0), some (yX6_faultOfLines, cX6_faultOfLines, 9, (some .int), 6, 0, 0), some (yX6_faultOfWedding, cX6_faultOfWedding, 6, (some .int), 6, 0, 0), some (yX6_actLength, cX6_actLength, 2, (some .int), 6, 0, 0), some (yX6_shapeOf, cX6_shapeOf, 1, (some (.object "java/lang/String")), 6, 0, 0), some (yX6_suits, cX6_suits, 2, (some .boolean), 6, 0, 0), some (yX7_init, cX7_init, 1, none, 7, 3, 202)]
def zm_4 : List (Option ZMt) := [some (yX7_lawsHeld, cX7_lawsHeld, 4, (some .int), 7, 0, 0), some (yX7_hittingSet, cX7_hittingSet, 5, (some .int), 7, 0, 0), some (yX7_hitsAll, cX7_hitsAll, 3, (some .boolean), 7, 0, 0), some (yX7_weighAwards, cX7_weighAwards, 6, (some .int), 7, 0, 0), some (yX7_tellAwards, cX7_tellAwards, 6, none, 7, 0, 0), some (yX7_worth, cX7_worth, 5, (some .int), 7, 0, 0), some (yX7_bestOf, cX7_bestOf, 4, (some .int), 7, 0, 0), some (yX7_richest, cX7_richest, 6, (some .int), 7, 0, 0), some (yX7_weigh, cX7_weigh, 3, none, 7, 0, 0), some (yX7_swings, cX7_swings, 5, (some .int), 7, 0, 0), some (yX7_isLeast, cX7_isLeast, 3, (some .boolean), 7, 0, 0), some (yX7_prevails, cX7_prevails, 4, (some .boolean), 7, 0, 0), some (yX8_init, cX8_init, 1, none, 8, 3, 47), some (yX8_windsLeft, cX8_windsLeft, 6, (some .int), 8, 0, 0), some (yX8_suits, cX8_suits, 7, (some .boolean), 8, 0, 0), some (yX8_mostLeft, cX8_mostLeft, 9, (some .int), 8, 0, 0)]
def zm_5 : List (Option ZMt) := [some (yX9_init, cX9_init, 2, none, 9, 3, 30), some (yX9_become, cX9_become, 2, none, 9, 0, 0), some (yX9_addLaw, cX9_addLaw, 2, none, 9, 0, 0), some (yX9_addOne, cX9_addOne, 2, none, 9, 0, 0), some (yX9_hasLaw, cX9_hasLaw, 2, (some .boolean), 9, 0, 0), some (yX9_hasOne, cX9_hasOne, 2, (some .boolean), 9, 0, 0), some (yX9_hasBit, cX9_hasBit, 3, (some .boolean), 9, 0, 0), some (yX9_isCarried, cX9_isCarried, 2, (some .boolean), 9, 0, 0), some (yX9_isFlung, cX9_isFlung, 2, (some .boolean), 9, 0, 0), some (yX9_bitsOf, cX9_bitsOf, 2, (some .int), 9, 0, 0), some (yX9_streetOf, cX9_streetOf, 2, (some .int), 9, 0, 0), some (yX9_placeOf, cX9_placeOf, 2, (some .int), 9, 0, 0), some (yX9_settle, cX9_settle, 3, none, 9, 0, 0), some (yX9_lay, cX9_lay, 3, none, 9, 0, 0), some (yX9_lies, cX9_lies, 2, (some .boolean), 9, 0, 0), some (yX9_isHeld, cX9_isHeld, 3, (some .boolean), 9, 0, 0)]
def zm_6 : List (Option ZMt) := [some (yX9_lyingCount, cX9_lyingCount, 3, (some .int), 9, 0, 0), some (yX9_heldCount, cX9_heldCount, 3, (some .int), 9, 0, 0), some (yX9_bitsAt, cX9_bitsAt, 4, (some .int), 9, 0, 0), some (yX9_lyingOf, cX9_lyingOf, 4, (some .int), 9, 0, 0), some (yX9_heldOf, cX9_heldOf, 4, (some .int), 9, 0, 0), some (yX9_heldBy, cX9_heldBy, 2, (some .int), 9, 0, 0), some (yX9_heldByOf, cX9_heldByOf, 5, (some .int), 9, 0, 0), some (yX9_holdersOf, cX9_holdersOf, 4, (some .int), 9, 0, 0), some (yX9_hasRight, cX9_hasRight, 3, (some .boolean), 9, 0, 0), some (yX9_rightHolder, cX9_rightHolder, 3, (some .int), 9, 0, 0), some (yX9_rightsOf, cX9_rightsOf, 4, (some .int), 9, 0, 0), some (yX9_rightCount, cX9_rightCount, 3, (some .int), 9, 0, 0), some (yX9_carry, cX9_carry, 2, (some .int), 9, 0, 0), some (yX9_fling, cX9_fling, 3, (some .int), 9, 0, 0), some (yX9_scatter, cX9_scatter, 3, none, 9, 0, 0), some (yX9_layAll, cX9_layAll, 4, none, 9, 0, 0)]
def zm_7 : List (Option ZMt) := [some (yX9_sweep, cX9_sweep, 3, (some .int), 9, 0, 0), some (yX9_walk, cX9_walk, 4, (some .int), 9, 0, 0), some (yX9_give, cX9_give, 7, (some .int), 9, 0, 0), some (yX9_letFall, cX9_letFall, 4, (some .int), 9, 0, 0), some (yX9_turnWind, cX9_turnWind, 3, (some .int), 9, 0, 0), some (yX9_pickUp, cX9_pickUp, 4, (some .int), 9, 0, 0), some (yX10_init, cX10_init, 1, none, 10, 2, 28), some (yX10_passDays, cX10_passDays, 7, (some .int), 10, 0, 0), some (yX10_passYears, cX10_passYears, 9, (some .int), 10, 0, 0), some (yX10_countCrowd, cX10_countCrowd, 4, none, 10, 0, 0), some (yX10_landingOf, cX10_landingOf, 7, (some .int), 10, 0, 0), some (yX10_blow, cX10_blow, 4, none, 10, 0, 0), some (yX10_draw, cX10_draw, 2, (some .int), 10, 0, 0), some (yX11_init, cX11_init, 1, none, 11, 118, 1578), some (yX11_sign, cX11_sign, 2, (some .int), 11, 0, 0), some (yX11_end, cX11_end, 2, (some .boolean), 11, 0, 0)]
def zm_8 : List (Option ZMt) := [some (yX11_laws, cX11_laws, 1, (some .int), 11, 0, 0), some (yX11_people, cX11_people, 1, (some .int), 11, 0, 0), some (yX11_rule, cX11_rule, 3, (some .int), 11, 0, 0), some (yX11_law, cX11_law, 3, (some .int), 11, 0, 0), some (yX11_bit, cX11_bit, 3, (some .int), 11, 0, 0), some (yX11_one, cX11_one, 3, (some .int), 11, 0, 0), some (yX11_sheet, cX11_sheet, 9, (some .int), 11, 0, 0), some (yX11_carries, cX11_carries, 2, (some .int), 11, 0, 0), some (yX11_flings, cX11_flings, 3, (some .int), 11, 0, 0), some (yX11_sweeps, cX11_sweeps, 2, (some .int), 11, 0, 0), some (yX11_days, cX11_days, 3, (some .int), 11, 0, 0), some (yX11_walks, cX11_walks, 3, (some .int), 11, 0, 0), some (yX11_gives, cX11_gives, 4, (some .int), 11, 0, 0), some (yX11_falls, cX11_falls, 2, (some .int), 11, 0, 0), some (yX11_wind, cX11_wind, 2, (some .int), 11, 0, 0), some (yX11_wedding, cX11_wedding, 7, (some .int), 11, 0, 0)]
def zm_9 : List (Option ZMt) := [some (yX11_undo, cX11_undo, 1, (some .int), 11, 0, 0), some (yX11_later, cX11_later, 4, (some .int), 11, 0, 0), some (yX11_when, cX11_when, 4, (some .int), 11, 0, 0), some (yX11_clean, cX11_clean, 2, (some .int), 11, 0, 0), some (yX11_drifts, cX11_drifts, 4, (some .int), 11, 0, 0), some (yX11_aims, cX11_aims, 7, (some .int), 11, 0, 0), some (yX11_prays, cX11_prays, 8, (some .int), 11, 0, 0), some (yX11_seeks, cX11_seeks, 9, (some .int), 11, 0, 0), some (yX11_whole, cX11_whole, 3, (some .int), 11, 0, 0), some (yX11_quorum, cX11_quorum, 2, (some .int), 11, 0, 0), some (yX11_awards, cX11_awards, 2, (some .int), 11, 0, 0), some (yX11_needs, cX11_needs, 5, (some .int), 11, 0, 0), some (yX11_line, cX11_line, 4, (some .int), 11, 0, 0), some (yX11_power, cX11_power, 3, (some .int), 11, 0, 0), some (yX11_least, cX11_least, 3, (some .int), 11, 0, 0), some (yX11_seen, cX11_seen, 4, (some .int), 11, 0, 0)]
def zm_10 : List (Option ZMt) := [some (yX11_forget, cX11_forget, 1, (some .int), 11, 0, 0), some (yX11_guess, cX11_guess, 2, (some .int), 11, 0, 0), some (yX11_looks, cX11_looks, 6, (some .int), 11, 0, 0), some (yX11_heard, cX11_heard, 3, (some .int), 11, 0, 0), some (yX11_denies, cX11_denies, 1, (some .int), 11, 0, 0), some (yX11_fits, cX11_fits, 2, (some .int), 11, 0, 0), some (yX11_asks, cX11_asks, 8, (some .int), 11, 0, 0), some (yX11_odds, cX11_odds, 8, (some .int), 11, 0, 0), some (yX11_went, cX11_went, 5, (some .int), 11, 0, 0), some (yX11_clears, cX11_clears, 1, (some .int), 11, 0, 0), some (yX11_scatters, cX11_scatters, 3, (some .int), 11, 0, 0), some (yX11_tries, cX11_tries, 7, (some .int), 11, 0, 0), some (yX11_handfuls, cX11_handfuls, 2, (some .int), 11, 0, 0), some (yX11_other, cX11_other, 5, (some .int), 11, 0, 0), some (yX11_grasps, cX11_grasps, 5, (some .int), 11, 0, 0), some (yX11_years, cX11_years, 4, (some .int), 11, 0, 0)]
def zm_11 : List (Option ZMt) := [some (yX11_keep, cX11_keep, 2, (some .boolean), 11, 0, 0), some (yX11_again, cX11_again, 2, (some .boolean), 11, 0, 0), some (yX11_count, cX11_count, 2, (some .int), 11, 0, 0), some (yX11_row, cX11_row, 2, (some .long), 11, 0, 0), some (yX11_countKept, cX11_countKept, 2, (some .int), 11, 0, 0), some (yX11_readLines, cX11_readLines, 7, (some .int), 11, 0, 0), some (yX11_noted, cX11_noted, 2, (some .int), 11, 0, 0), some (yX11_doAct, cX11_doAct, 4, (some .int), 11, 0, 0), some (yX11_dreamOf, cX11_dreamOf, 3, none, 11, 0, 0), some (yX11_streetTold, cX11_streetTold, 2, (some .int), 11, 0, 0), some (yX11_waysOfLoss, cX11_waysOfLoss, 5, (some .int), 11, 0, 0), some (yX11_winningHandful, cX11_winningHandful, 5, (some .int), 11, 0, 0), some (yX11_handfulOutOf, cX11_handfulOutOf, 4, (some .int), 11, 0, 0), some (yX11_isContent, cX11_isContent, 4, (some .boolean), 11, 0, 0), some (yX11_grasped, cX11_grasped, 3, (some .int), 11, 0, 0), some (yX11_isWithin, cX11_isWithin, 3, (some .boolean), 11, 0, 0)]
def zm_12 : List (Option ZMt) := [some (yX11_clamp, cX11_clamp, 3, (some .int), 11, 0, 0), some (yX11_slotOf, cX11_slotOf, 2, (some .int), 11, 0, 0), some (yX12_refuse, cX12_refuse, 1, (some .int), 12, 0, 0), some (yX12_in, cX12_in, 6, (some .boolean), 12, 0, 0), some (yX12_has, cX12_has, 2, (some .boolean), 12, 0, 0), some (yX12_flag, cX12_flag, 1, (some .int), 12, 0, 0), some (yX12_common, cX12_common, 4, (some .long), 12, 0, 0), some (yX12_enters, cX12_enters, 3, none, 12, 0, 0), some (yX12_entersFraction, cX12_entersFraction, 7, (some .int), 12, 0, 0), some (yX12_init, cX12_init, 2, none, 12, 31, 1502), some (yX12_isLaw, cX12_isLaw, 2, (some .boolean), 12, 0, 0), some (yX12_isBit, cX12_isBit, 3, (some .boolean), 12, 0, 0), some (yX12_isOne, cX12_isOne, 2, (some .boolean), 12, 0, 0), some (yX12_all, cX12_all, 1, (some .int), 12, 0, 0), some (yX12_lies, cX12_lies, 2, (some .boolean), 12, 0, 0), some (yX12_isHeldBy, cX12_isHeldBy, 3, (some .boolean), 12, 0, 0)]
def zm_13 : List (Option ZMt) := [some (yX12_heldOf, cX12_heldOf, 5, (some .int), 12, 0, 0), some (yX12_heldBy, cX12_heldBy, 4, (some .int), 12, 0, 0), some (yX12_heldMany, cX12_heldMany, 4, (some .int), 12, 0, 0), some (yX12_lieMany, cX12_lieMany, 3, (some .int), 12, 0, 0), some (yX12_hasRight, cX12_hasRight, 4, (some .boolean), 12, 0, 0), some (yX12_rights, cX12_rights, 5, (some .int), 12, 0, 0), some (yX12_copies, cX12_copies, 3, none, 12, 0, 0), some (yX12_sign, cX12_sign, 3, (some .int), 12, 0, 0), some (yX12_end, cX12_end, 2, (some .boolean), 12, 0, 0), some (yX12_begins, cX12_begins, 3, (some .int), 12, 0, 0), some (yX12_takes, cX12_takes, 3, (some .boolean), 12, 0, 0), some (yX12_isDigit, cX12_isDigit, 1, (some .boolean), 12, 0, 0), some (yX12_takesOf, cX12_takesOf, 3, (some .int), 12, 0, 0), some (yX12_number, cX12_number, 4, (some .int), 12, 0, 0), some (yX12_digitIn, cX12_digitIn, 3, (some .int), 12, 0, 0), some (yX12_faultOf, cX12_faultOf, 5, (some .int), 12, 0, 0)]
def zm_14 : List (Option ZMt) := [some (yX12_readsLines, cX12_readsLines, 8, (some .int), 12, 0, 0), some (yX12_came, cX12_came, 1, (some .int), 12, 0, 0), some (yX12_laws, cX12_laws, 3, (some .int), 12, 0, 0), some (yX12_people, cX12_people, 3, (some .int), 12, 0, 0), some (yX12_codes, cX12_codes, 2, none, 12, 0, 0), some (yX12_readsThing, cX12_readsThing, 2, (some .boolean), 12, 0, 0), some (yX12_readsRank, cX12_readsRank, 4, (some .boolean), 12, 0, 0), some (yX12_readsRule, cX12_readsRule, 3, (some .int), 12, 0, 0), some (yX12_laysCode, cX12_laysCode, 4, none, 12, 0, 0), some (yX12_rule, cX12_rule, 2, (some .int), 12, 0, 0), some (yX12_worked, cX12_worked, 3, (some .int), 12, 0, 0), some (yX12_ruled, cX12_ruled, 4, (some .int), 12, 0, 0), some (yX12_lyingIn, cX12_lyingIn, 4, (some .int), 12, 0, 0), some (yX12_blown, cX12_blown, 5, (some .int), 12, 0, 0), some (yX12_ownerOf, cX12_ownerOf, 4, (some .int), 12, 0, 0), some (yX12_law, cX12_law, 6, (some .int), 12, 0, 0)]
def zm_15 : List (Option ZMt) := [some (yX12_bit, cX12_bit, 3, (some .int), 12, 0, 0), some (yX12_rightsOf, cX12_rightsOf, 4, (some .int), 12, 0, 0), some (yX12_one, cX12_one, 3, (some .int), 12, 0, 0), some (yX12_sheet, cX12_sheet, 9, (some .int), 12, 0, 0), some (yX12_putsBy, cX12_putsBy, 2, none, 12, 0, 0), some (yX12_adds, cX12_adds, 3, (some .int), 12, 0, 0), some (yX12_counted, cX12_counted, 2, (some .int), 12, 0, 0), some (yX12_undo, cX12_undo, 2, (some .int), 12, 0, 0), some (yX12_dayGoes, cX12_dayGoes, 5, (some .int), 12, 0, 0), some (yX12_goesOn, cX12_goesOn, 5, (some .int), 12, 0, 0), some (yX12_carriesOne, cX12_carriesOne, 2, (some .int), 12, 0, 0), some (yX12_fallsIn, cX12_fallsIn, 5, none, 12, 0, 0), some (yX12_flingsOne, cX12_flingsOne, 3, (some .int), 12, 0, 0), some (yX12_sweepsOne, cX12_sweepsOne, 4, (some .int), 12, 0, 0), some (yX12_walksOne, cX12_walksOne, 4, (some .int), 12, 0, 0), some (yX12_goesFrom, cX12_goesFrom, 8, (some .int), 12, 0, 0)]
def zm_16 : List (Option ZMt) := [some (yX12_givesAll, cX12_givesAll, 5, (some .int), 12, 0, 0), some (yX12_fallsFrom, cX12_fallsFrom, 2, (some .int), 12, 0, 0), some (yX12_windTo, cX12_windTo, 3, (some .int), 12, 0, 0), some (yX12_carries, cX12_carries, 2, (some .int), 12, 0, 0), some (yX12_flings, cX12_flings, 3, (some .int), 12, 0, 0), some (yX12_sweeps, cX12_sweeps, 2, (some .int), 12, 0, 0), some (yX12_days, cX12_days, 3, (some .int), 12, 0, 0), some (yX12_walks, cX12_walks, 3, (some .int), 12, 0, 0), some (yX12_gives, cX12_gives, 4, (some .int), 12, 0, 0), some (yX12_falls, cX12_falls, 2, (some .int), 12, 0, 0), some (yX12_wind, cX12_wind, 2, (some .int), 12, 0, 0), some (yX12_readsAct, cX12_readsAct, 4, (some .boolean), 12, 0, 0), some (yX12_does, cX12_does, 3, (some .boolean), 12, 0, 0), some (yX12_wedding, cX12_wedding, 5, (some .int), 12, 0, 0), some (yX12_later, cX12_later, 4, (some .int), 12, 0, 0), some (yX12_when, cX12_when, 4, (some .int), 12, 0, 0)]
def zm_17 : List (Option ZMt) := [some (yX12_clean, cX12_clean, 2, (some .int), 12, 0, 0), some (yX12_drifts, cX12_drifts, 4, (some .int), 12, 0, 0), some (yX12_aims, cX12_aims, 8, (some .int), 12, 0, 0), some (yX12_heldWith, cX12_heldWith, 5, (some .int), 12, 0, 0), some (yX12_prays, cX12_prays, 5, (some .int), 12, 0, 0), some (yX12_seeks, cX12_seeks, 8, (some .int), 12, 0, 0), some (yX12_whole, cX12_whole, 4, (some .int), 12, 0, 0), some (yX12_holdersOf, cX12_holdersOf, 4, (some .int), 12, 0, 0), some (yX12_holdsOfAll, cX12_holdsOfAll, 4, (some .boolean), 12, 0, 0), some (yX12_quorum, cX12_quorum, 4, (some .int), 12, 0, 0), some (yX12_awardsFrom, cX12_awardsFrom, 5, none, 12, 0, 0), some (yX12_awards, cX12_awards, 2, (some .int), 12, 0, 0), some (yX12_needs, cX12_needs, 6, (some .int), 12, 0, 0), some (yX12_line, cX12_line, 3, (some .int), 12, 0, 0), some (yX12_carriesIt, cX12_carriesIt, 4, (some .boolean), 12, 0, 0), some (yX12_power, cX12_power, 4, (some .int), 12, 0, 0)]
def zm_18 : List (Option ZMt) := [some (yX12_least, cX12_least, 5, (some .int), 12, 0, 0), some (yX12_seen, cX12_seen, 4, (some .int), 12, 0, 0), some (yX12_forget, cX12_forget, 2, (some .int), 12, 0, 0), some (yX12_winds, cX12_winds, 5, (some .int), 12, 0, 0), some (yX12_guess, cX12_guess, 2, (some .int), 12, 0, 0), some (yX12_looks, cX12_looks, 9, (some .int), 12, 0, 0), some (yX12_highest, cX12_highest, 1, (some .int), 12, 0, 0), some (yX12_heard, cX12_heard, 3, (some .int), 12, 0, 0), some (yX12_denies, cX12_denies, 2, (some .int), 12, 0, 0), some (yX12_isSo, cX12_isSo, 4, (some .boolean), 12, 0, 0), some (yX12_fitting, cX12_fitting, 5, (some .int), 12, 0, 0), some (yX12_fits, cX12_fits, 2, (some .int), 12, 0, 0), some (yX12_asks, cX12_asks, 8, (some .int), 12, 0, 0), some (yX12_odds, cX12_odds, 13, (some .int), 12, 0, 0), some (yX12_went, cX12_went, 4, (some .int), 12, 0, 0), some (yX12_clears, cX12_clears, 2, (some .int), 12, 0, 0)]
def zm_19 : List (Option ZMt) := [some (yX12_goesBy, cX12_goesBy, 3, (some .int), 12, 0, 0), some (yX12_isScatter, cX12_isScatter, 4, (some .boolean), 12, 0, 0), some (yX12_scatters, cX12_scatters, 4, (some .int), 12, 0, 0), some (yX12_tries, cX12_tries, 8, (some .int), 12, 0, 0), some (yX12_handfuls, cX12_handfuls, 5, (some .int), 12, 0, 0), some (yX12_other, cX12_other, 6, (some .int), 12, 0, 0), some (yX12_gets, cX12_gets, 3, (some .int), 12, 0, 0), some (yX12_isRest, cX12_isRest, 5, (some .boolean), 12, 0, 0), some (yX12_grasps, cX12_grasps, 5, (some .int), 12, 0, 0), some (yX12_draws, cX12_draws, 2, (some .int), 12, 0, 0), some (yX12_years, cX12_years, 7, (some .int), 12, 0, 0), some (yX12_keep, cX12_keep, 3, (some .boolean), 12, 0, 0), some (yX12_again, cX12_again, 3, (some .boolean), 12, 0, 0), some (yX12_count, cX12_count, 2, (some .int), 12, 0, 0), some (yX12_row, cX12_row, 2, (some .long), 12, 0, 0), none]
def zm_20 : List (Option ZMt) := [none, none, some (yJ6_bitCount_0f7a4, cJ6_bitCount_0f7a4, 1, (some .int), 13, 0, 0), none, none, none, none, none, none, none, none, none, none, none, none, none]
def zm_21 : List (Option ZMt) := [none, none, none, none, none, none, none, none, none, none, none, none, none, none, none, none]
def zm_22 : List (Option ZMt) := [none, none, none]
def zm_ : List (List (Option ZMt)) := [zm_0, zm_1, zm_2, zm_3, zm_4, zm_5, zm_6, zm_7, zm_8, zm_9, zm_10, zm_11, zm_12, zm_13, zm_14, zm_15, zm_16, zm_17, zm_18, zm_19, zm_20, zm_21, zm_22]
def zm (y : Nat) : Option ZMt := (zm_[y / 16]?).bind (fun c => (c[y % 16]?).bind (fun q => q))
